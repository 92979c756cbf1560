theorem up_co {h : ma_H} {a b : Nat} {c c' : ma_C} (n : a ≠ b) : ma_up (ma_up h a c) b c' = ma_up (ma_up h b c') a c := by
  funext j
  by_cases e : j = b
  · rw [e, ma_up_s, ma_up_n (Ne.symm n), ma_up_s]
  · by_cases f : j = a
    · rw [f, ma_up_s, ma_up_n n, ma_up_s]
    · rw [ma_up_n e, ma_up_n f, ma_up_n f, ma_up_n e]
theorem ini_8 {h : ma_H} {b n : Nat} {c1 c2 c3 a1 a2 : ma_C} (e : b ≠ n) : ma_up (ma_up h b c3) n a2 = ma_up (ma_up (ma_up (ma_up (ma_up h b c1) b c2) n a1) b c3) n a2 := by
  rw [ma_up_up, up_co (Ne.symm e) (c := a1), ma_up_up, ma_up_up]
theorem c_X8_init {h : ma_H} {b nx d : Nat} {Q : Option ma_V → ma_H → Nat → Prop} (hn : b ≠ nx) (hx : nx + 1 < 1000000) (K : Q none (ma_up (ma_up h b (co 8 [vi 1, vr nx])) nx (ci 32 (fun _ => -1))) (nx + 1)) : ma_Ct mX8_init (d + 1) 1 32 [vr b] (ma_up h b (co 8 [vi 0, vz])) nx Q := by
  refine ma_Ct.of (by decide +kernel) (Nat.le_of_ble_eq_true rfl) ?_
  refine ma_aload_n dX8_init_0 rfl ?_
  refine ma_obj dX8_init_1 lX8_3 oi_i oi_c (by omega) (Nat.le_of_ble_eq_true rfl) ?_
  refine ma_aload_n dX8_init_4 rfl ?_
  refine ma_iconst dX8_init_5 ?_
  refine ma_puti dX8_init_6 fX8_9 (by first | assumption | exact ma_up_s _ _ _ | exact (ma_up_n (Ne.symm hn)).trans (ma_up_s _ _ _) | exact (ma_up_n hn).trans (ma_up_s _ _ _)) (Nat.le_of_ble_eq_true rfl) ?_
  refine ma_aload_n dX8_init_9 rfl ?_
  refine ma_bipush dX8_init_10 ?_
  refine ma_newa (t := 0) (n := 32) dX8_init_12 (by decide) aw_0 (by decide) (by omega) ?_
  refine ma_putFr dX8_init_14 fX8_15 rfl ⟨_, _, rfl⟩ (by first | assumption | exact ma_up_s _ _ _ | exact (ma_up_n (Ne.symm hn)).trans (ma_up_s _ _ _) | exact (ma_up_n hn).trans (ma_up_s _ _ _)) (Nat.le_of_ble_eq_true rfl) ?_
  refine ma_aload_n dX8_init_17 rfl ?_
  refine ma_getf dX8_init_18 fX8_15 (by first | assumption | exact ma_up_s _ _ _ | exact (ma_up_n (Ne.symm hn)).trans (ma_up_s _ _ _) | exact (ma_up_n hn).trans (ma_up_s _ _ _)) (by rfl) ?_
  refine ma_iconst dX8_init_21 ?_
  refine ma_cS [_, _] dX8_init_22 wJ7_fill_53178 lX8_19 tJ7_fill_53178 (Nat.le_of_ble_eq_true rfl) ?_
  refine c_J7_fill_53178 ((ma_up_n (Ne.symm hn)).trans (ma_up_s _ _ _)) (by decide) ?_
  refine ma_vret dX8_init_25 rfl ?_
  refine cast (congrArg (fun x => Q none x (nx + 1)) ?_) K
  exact ini_8 hn
