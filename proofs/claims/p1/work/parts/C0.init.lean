theorem up_co {h : ma_H} {a b : Nat} {c c' : ma_C} (n : a ≠ b) : ma_up (ma_up h a c) b c' = ma_up (ma_up h b c') a c := by
  funext j
  by_cases e : j = b
  · rw [e, ma_up_s, ma_up_n (Ne.symm n), ma_up_s]
  · by_cases f : j = a
    · rw [f, ma_up_s, ma_up_n n, ma_up_s]
    · rw [ma_up_n e, ma_up_n f, ma_up_n f, ma_up_n e]
theorem ini_8 {h : ma_H} {b n : Nat} {c1 c2 c3 a1 a2 : ma_C} (e : b ≠ n) : ma_up (ma_up h b c3) n a2 = ma_up (ma_up (ma_up (ma_up (ma_up h b c1) b c2) n a1) b c3) n a2 := by
  rw [ma_up_up, up_co (Ne.symm e) (c := a1), ma_up_up, ma_up_up]
theorem c_X8_init {h : ma_H} {b nx d : Nat} {Q : Option ma_V → ma_H → Nat → Prop} (hn : b ≠ nx) (hx : nx + 1 < 1000000) (K : Q none (ma_up (ma_up h b (co 8 [vi 1, vr nx])) nx (ci 32 (fun _ => -1))) (nx + 1)) : ma_Ct mX8_init (d + 1) 1 32 [vr b] (ma_up h b (co 8 [vi 0, vz])) nx Q := by
  refine ma_Ct.of (by decide +kernel) (Nat.le_of_ble_eq_true rfl) ?_
  refine ma_aload_n dX8_init_0 rfl ?_
  refine ma_obj dX8_init_1 lX8_3 oi_i oi_c (by omega) (Nat.le_of_ble_eq_true rfl) ?_
  refine ma_aload_n dX8_init_4 rfl ?_
  refine ma_iconst dX8_init_5 ?_
  refine ma_puti dX8_init_6 fX8_9 (by first | assumption | exact ma_up_s _ _ _ | exact (ma_up_n (Ne.symm hn)).trans (ma_up_s _ _ _) | exact (ma_up_n hn).trans (ma_up_s _ _ _)) (Nat.le_of_ble_eq_true rfl) ?_
  refine ma_aload_n dX8_init_9 rfl ?_
  refine ma_bipush dX8_init_10 ?_
  refine ma_newa (t := 0) (n := 32) dX8_init_12 (by decide) aw_0 (by decide) (by omega) ?_
  refine ma_putFr dX8_init_14 fX8_15 rfl ⟨_, _, rfl⟩ (by first | assumption | exact ma_up_s _ _ _ | exact (ma_up_n (Ne.symm hn)).trans (ma_up_s _ _ _) | exact (ma_up_n hn).trans (ma_up_s _ _ _)) (Nat.le_of_ble_eq_true rfl) ?_
  refine ma_aload_n dX8_init_17 rfl ?_
  refine ma_getf dX8_init_18 fX8_15 (by first | assumption | exact ma_up_s _ _ _ | exact (ma_up_n (Ne.symm hn)).trans (ma_up_s _ _ _) | exact (ma_up_n hn).trans (ma_up_s _ _ _)) (by rfl) ?_
  refine ma_iconst dX8_init_21 ?_
  refine ma_cS [_, _] dX8_init_22 wJ7_fill_53178 lX8_19 tJ7_fill_53178 (Nat.le_of_ble_eq_true rfl) ?_
  refine c_J7_fill_53178 ((ma_up_n (Ne.symm hn)).trans (ma_up_s _ _ _)) (by decide) ?_
  refine ma_vret dX8_init_25 rfl ?_
  refine cast (congrArg (fun x => Q none x (nx + 1)) ?_) K
  exact ini_8 hn
theorem c_X9_init {h : ma_H} {d : Nat} {Q : Option ma_V → ma_H → Nat → Prop} (K : Q none (ma_up (ma_up (ma_up h 31 (co 9 [vi 0, vz])) 32 (cl 65 (fun _ => 0))) 31 (co 9 [vi 0, vr 32])) 33) : ma_Ct mX9_init (d + 1) 1 65 [vr 31] (ma_up h 31 (co 9 [vi 0, vz])) 32 Q := by
  refine ma_Ct.of (by decide +kernel) (Nat.le_of_ble_eq_true rfl) ?_
  refine ma_aload_n dX9_init_0 rfl ?_
  refine ma_obj dX9_init_1 lX9_1 oi_i oi_c (by omega) (Nat.le_of_ble_eq_true rfl) ?_
  refine ma_aload_n dX9_init_4 rfl ?_
  refine ma_bipush dX9_init_5 ?_
  refine ma_newa (t := 1) (n := 65) dX9_init_7 (by decide) aw_1 (by decide) (by omega) ?_
  refine ma_putFr dX9_init_9 fX9_9 rfl ⟨_, _, rfl⟩ (by rfl) (Nat.le_of_ble_eq_true rfl) ?_
  refine ma_vret dX9_init_12 rfl ?_
  exact K
theorem c_X5_init {h : ma_H} {d : Nat} {Q : Option ma_V → ma_H → Nat → Prop} (K : Q none (ma_up (ma_up (ma_up (ma_up (ma_up h 33 (co 5 [vi 0, vz, vi 0, vz])) 34 (ci 80 (fun _ => 0))) 33 (co 5 [vi 0, vr 34, vi 0, vz])) 35 (ci 160 (fun _ => 0))) 33 (co 5 [vi 0, vr 34, vi 0, vr 35])) 36) : ma_Ct mX5_init (d + 1) 2 240 [vr 33] (ma_up h 33 (co 5 [vi 0, vz, vi 0, vz])) 34 Q := by
  refine ma_Ct.of (by decide +kernel) (Nat.le_of_ble_eq_true rfl) ?_
  refine ma_aload_n dX5_init_0 rfl ?_
  refine ma_obj dX5_init_1 lX5_3 oi_i oi_c (by omega) (Nat.le_of_ble_eq_true rfl) ?_
  refine ma_aload_n dX5_init_4 rfl ?_
  refine ma_bipush dX5_init_5 ?_
  refine ma_newa (t := 0) (n := 80) dX5_init_7 (by decide) aw_0 (by decide) (by omega) ?_
  refine ma_putFr dX5_init_9 fX5_11 rfl ⟨_, _, rfl⟩ (by rfl) (Nat.le_of_ble_eq_true rfl) ?_
  refine ma_aload_n dX5_init_12 rfl ?_
  refine ma_sipush dX5_init_13 ?_
  refine ma_newa (t := 0) (n := 160) dX5_init_16 (by decide) aw_0 (by decide) (by omega) ?_
  refine ma_putFr dX5_init_18 fX5_15 rfl ⟨_, _, rfl⟩ (by rfl) (Nat.le_of_ble_eq_true rfl) ?_
  refine ma_vret dX5_init_21 rfl ?_
  exact K
theorem c_X4_init {h : ma_H} {d : Nat} {Q : Option ma_V → ma_H → Nat → Prop} (K : Q none (ma_up (ma_up (ma_up (ma_up (ma_up h 36 (co 4 [vi 0, vz, vz])) 37 (ci 8 (fun _ => 0))) 36 (co 4 [vi 0, vr 37, vz])) 38 (ci 8 (fun _ => 0))) 36 (co 4 [vi 0, vr 37, vr 38])) 39) : ma_Ct mX4_init (d + 1) 2 16 [vr 36] (ma_up h 36 (co 4 [vi 0, vz, vz])) 37 Q := by
  refine ma_Ct.of (by decide +kernel) (Nat.le_of_ble_eq_true rfl) ?_
  refine ma_aload_n dX4_init_0 rfl ?_
  refine ma_obj dX4_init_1 lX4_3 oi_i oi_c (by omega) (Nat.le_of_ble_eq_true rfl) ?_
  refine ma_aload_n dX4_init_4 rfl ?_
  refine ma_bipush dX4_init_5 ?_
  refine ma_newa (t := 0) (n := 8) dX4_init_7 (by decide) aw_0 (by decide) (by omega) ?_
  refine ma_putFr dX4_init_9 fX4_11 rfl ⟨_, _, rfl⟩ (by rfl) (Nat.le_of_ble_eq_true rfl) ?_
  refine ma_aload_n dX4_init_12 rfl ?_
  refine ma_bipush dX4_init_13 ?_
  refine ma_newa (t := 0) (n := 8) dX4_init_15 (by decide) aw_0 (by decide) (by omega) ?_
  refine ma_putFr dX4_init_17 fX4_15 rfl ⟨_, _, rfl⟩ (by rfl) (Nat.le_of_ble_eq_true rfl) ?_
  refine ma_vret dX4_init_20 rfl ?_
  exact K
theorem c_X2_init {h : ma_H} {d : Nat} {Q : Option ma_V → ma_H → Nat → Prop} (K : Q none (ma_up (ma_up (ma_up (ma_up (ma_up (ma_up (ma_up (ma_up (ma_up h 39 (co 2 [vz, vz, vz, vz])) 40 (ci 32 (fun _ => 0))) 39 (co 2 [vr 40, vz, vz, vz])) 41 (ci 8 (fun _ => 0))) 39 (co 2 [vr 40, vr 41, vz, vz])) 42 (ci 8 (fun _ => 0))) 39 (co 2 [vr 40, vr 41, vr 42, vz])) 43 (ci 8 (fun _ => 0))) 39 (co 2 [vr 40, vr 41, vr 42, vr 43])) 44) : ma_Ct mX2_init (d + 1) 4 56 [vr 39] (ma_up h 39 (co 2 [vz, vz, vz, vz])) 40 Q := by
  refine ma_Ct.of (by decide +kernel) (Nat.le_of_ble_eq_true rfl) ?_
  refine ma_aload_n dX2_init_0 rfl ?_
  refine ma_obj dX2_init_1 lX2_3 oi_i oi_c (by omega) (Nat.le_of_ble_eq_true rfl) ?_
  refine ma_aload_n dX2_init_4 rfl ?_
  refine ma_bipush dX2_init_5 ?_
  refine ma_newa (t := 0) (n := 32) dX2_init_7 (by decide) aw_0 (by decide) (by omega) ?_
  refine ma_putFr dX2_init_9 fX2_9 rfl ⟨_, _, rfl⟩ (by rfl) (Nat.le_of_ble_eq_true rfl) ?_
  refine ma_aload_n dX2_init_12 rfl ?_
  refine ma_bipush dX2_init_13 ?_
  refine ma_newa (t := 0) (n := 8) dX2_init_15 (by decide) aw_0 (by decide) (by omega) ?_
  refine ma_putFr dX2_init_17 fX2_15 rfl ⟨_, _, rfl⟩ (by rfl) (Nat.le_of_ble_eq_true rfl) ?_
  refine ma_aload_n dX2_init_20 rfl ?_
  refine ma_bipush dX2_init_21 ?_
  refine ma_newa (t := 0) (n := 8) dX2_init_23 (by decide) aw_0 (by decide) (by omega) ?_
  refine ma_putFr dX2_init_25 fX2_18 rfl ⟨_, _, rfl⟩ (by rfl) (Nat.le_of_ble_eq_true rfl) ?_
  refine ma_aload_n dX2_init_28 rfl ?_
  refine ma_bipush dX2_init_29 ?_
  refine ma_newa (t := 0) (n := 8) dX2_init_31 (by decide) aw_0 (by decide) (by omega) ?_
  refine ma_putFr dX2_init_33 fX2_21 rfl ⟨_, _, rfl⟩ (by rfl) (Nat.le_of_ble_eq_true rfl) ?_
  refine ma_vret dX2_init_36 rfl ?_
  exact K
theorem c_X7_init {h : ma_H} {d : Nat} {Q : Option ma_V → ma_H → Nat → Prop} (K : Q none (ma_up (ma_up (ma_up (ma_up (ma_up (ma_up (ma_up (ma_up (ma_up (ma_up (ma_up (ma_up (ma_up (ma_up (ma_up (ma_up (ma_up (ma_up (ma_up h 44 (co 7 [vz, vz, vz, vz, vz, vz, vz, vz, vi 0, vi 0, vz])) 45 (ci 128 (fun _ => 0))) 44 (co 7 [vr 45, vz, vz, vz, vz, vz, vz, vz, vi 0, vi 0, vz])) 46 (ci 128 (fun _ => 0))) 44 (co 7 [vr 45, vr 46, vz, vz, vz, vz, vz, vz, vi 0, vi 0, vz])) 47 (ci 128 (fun _ => 0))) 44 (co 7 [vr 45, vr 46, vr 47, vz, vz, vz, vz, vz, vi 0, vi 0, vz])) 48 (cz 128 (fun _ => 0))) 44 (co 7 [vr 45, vr 46, vr 47, vr 48, vz, vz, vz, vz, vi 0, vi 0, vz])) 49 (ci 32 (fun _ => 0))) 44 (co 7 [vr 45, vr 46, vr 47, vr 48, vr 49, vz, vz, vz, vi 0, vi 0, vz])) 50 (ci 32 (fun _ => 0))) 44 (co 7 [vr 45, vr 46, vr 47, vr 48, vr 49, vr 50, vz, vz, vi 0, vi 0, vz])) 51 (ci 32 (fun _ => 0))) 44 (co 7 [vr 45, vr 46, vr 47, vr 48, vr 49, vr 50, vr 51, vz, vi 0, vi 0, vz])) 52 (ci 32 (fun _ => 0))) 44 (co 7 [vr 45, vr 46, vr 47, vr 48, vr 49, vr 50, vr 51, vr 52, vi 0, vi 0, vz])) 53 (ci 128 (fun _ => 0))) 44 (co 7 [vr 45, vr 46, vr 47, vr 48, vr 49, vr 50, vr 51, vr 52, vi 0, vi 0, vr 53])) 54) : ma_Ct mX7_init (d + 1) 9 768 [vr 44] (ma_up h 44 (co 7 [vz, vz, vz, vz, vz, vz, vz, vz, vi 0, vi 0, vz])) 45 Q := by
  refine ma_Ct.of (by decide +kernel) (Nat.le_of_ble_eq_true rfl) ?_
  refine ma_aload_n dX7_init_0 rfl ?_
  refine ma_obj dX7_init_1 lX7_3 oi_i oi_c (by omega) (Nat.le_of_ble_eq_true rfl) ?_
  refine ma_aload_n dX7_init_4 rfl ?_
  refine ma_sipush dX7_init_5 ?_
  refine ma_newa (t := 0) (n := 128) dX7_init_8 (by decide) aw_0 (by decide) (by omega) ?_
  refine ma_putFr dX7_init_10 fX7_11 rfl ⟨_, _, rfl⟩ (by rfl) (Nat.le_of_ble_eq_true rfl) ?_
  refine ma_aload_n dX7_init_13 rfl ?_
  refine ma_sipush dX7_init_14 ?_
  refine ma_newa (t := 0) (n := 128) dX7_init_17 (by decide) aw_0 (by decide) (by omega) ?_
  refine ma_putFr dX7_init_19 fX7_15 rfl ⟨_, _, rfl⟩ (by rfl) (Nat.le_of_ble_eq_true rfl) ?_
  refine ma_aload_n dX7_init_22 rfl ?_
  refine ma_sipush dX7_init_23 ?_
  refine ma_newa (t := 0) (n := 128) dX7_init_26 (by decide) aw_0 (by decide) (by omega) ?_
  refine ma_putFr dX7_init_28 fX7_18 rfl ⟨_, _, rfl⟩ (by rfl) (Nat.le_of_ble_eq_true rfl) ?_
  refine ma_aload_n dX7_init_31 rfl ?_
  refine ma_sipush dX7_init_32 ?_
  refine ma_newa (t := 3) (n := 128) dX7_init_35 (by decide) aw_3 (by decide) (by omega) ?_
  refine ma_putFr dX7_init_37 fX7_21 rfl ⟨_, _, rfl⟩ (by rfl) (Nat.le_of_ble_eq_true rfl) ?_
  refine ma_aload_n dX7_init_40 rfl ?_
  refine ma_bipush dX7_init_41 ?_
  refine ma_newa (t := 0) (n := 32) dX7_init_43 (by decide) aw_0 (by decide) (by omega) ?_
  refine ma_putFr dX7_init_45 fX7_25 rfl ⟨_, _, rfl⟩ (by rfl) (Nat.le_of_ble_eq_true rfl) ?_
  refine ma_aload_n dX7_init_48 rfl ?_
  refine ma_bipush dX7_init_49 ?_
  refine ma_newa (t := 0) (n := 32) dX7_init_51 (by decide) aw_0 (by decide) (by omega) ?_
  refine ma_putFr dX7_init_53 fX7_28 rfl ⟨_, _, rfl⟩ (by rfl) (Nat.le_of_ble_eq_true rfl) ?_
  refine ma_aload_n dX7_init_56 rfl ?_
  refine ma_bipush dX7_init_57 ?_
  refine ma_newa (t := 0) (n := 32) dX7_init_59 (by decide) aw_0 (by decide) (by omega) ?_
  refine ma_putFr dX7_init_61 fX7_31 rfl ⟨_, _, rfl⟩ (by rfl) (Nat.le_of_ble_eq_true rfl) ?_
  refine ma_aload_n dX7_init_64 rfl ?_
  refine ma_bipush dX7_init_65 ?_
  refine ma_newa (t := 0) (n := 32) dX7_init_67 (by decide) aw_0 (by decide) (by omega) ?_
  refine ma_putFr dX7_init_69 fX7_34 rfl ⟨_, _, rfl⟩ (by rfl) (Nat.le_of_ble_eq_true rfl) ?_
  refine ma_aload_n dX7_init_72 rfl ?_
  refine ma_sipush dX7_init_73 ?_
  refine ma_newa (t := 0) (n := 128) dX7_init_76 (by decide) aw_0 (by decide) (by omega) ?_
  refine ma_putFr dX7_init_78 fX7_37 rfl ⟨_, _, rfl⟩ (by rfl) (Nat.le_of_ble_eq_true rfl) ?_
  refine ma_vret dX7_init_81 rfl ?_
  exact K
theorem c_X0_init {h : ma_H} {d : Nat} {Q : Option ma_V → ma_H → Nat → Prop} (K : Q none (ma_up (ma_up (ma_up (ma_up (ma_up (ma_up (ma_up h 64 (co 0 [vi 0, vz, vz, vz])) 65 (ci 40 (fun _ => 0))) 64 (co 0 [vi 0, vr 65, vz, vz])) 66 (ci 40 (fun _ => 0))) 64 (co 0 [vi 0, vr 65, vr 66, vz])) 67 (ci 1280 (fun _ => 0))) 64 (co 0 [vi 0, vr 65, vr 66, vr 67])) 68) : ma_Ct mX0_init (d + 1) 3 1360 [vr 64] (ma_up h 64 (co 0 [vi 0, vz, vz, vz])) 65 Q := by
  refine ma_Ct.of (by decide +kernel) (Nat.le_of_ble_eq_true rfl) ?_
  refine ma_aload_n dX0_init_0 rfl ?_
  refine ma_obj dX0_init_1 lX0_3 oi_i oi_c (by omega) (Nat.le_of_ble_eq_true rfl) ?_
  refine ma_aload_n dX0_init_4 rfl ?_
  refine ma_bipush dX0_init_5 ?_
  refine ma_newa (t := 0) (n := 40) dX0_init_7 (by decide) aw_0 (by decide) (by omega) ?_
  refine ma_putFr dX0_init_9 fX0_11 rfl ⟨_, _, rfl⟩ (by rfl) (Nat.le_of_ble_eq_true rfl) ?_
  refine ma_aload_n dX0_init_12 rfl ?_
  refine ma_bipush dX0_init_13 ?_
  refine ma_newa (t := 0) (n := 40) dX0_init_15 (by decide) aw_0 (by decide) (by omega) ?_
  refine ma_putFr dX0_init_17 fX0_15 rfl ⟨_, _, rfl⟩ (by rfl) (Nat.le_of_ble_eq_true rfl) ?_
  refine ma_aload_n dX0_init_20 rfl ?_
  refine ma_sipush dX0_init_21 ?_
  refine ma_newa (t := 0) (n := 1280) dX0_init_24 (by decide) aw_0 (by decide) (by omega) ?_
  refine ma_putFr dX0_init_26 fX0_18 rfl ⟨_, _, rfl⟩ (by rfl) (Nat.le_of_ble_eq_true rfl) ?_
  refine ma_vret dX0_init_29 rfl ?_
  exact K
theorem c_X10_init {h : ma_H} {d : Nat} {Q : Option ma_V → ma_H → Nat → Prop} (K : Q none (ma_up (ma_up (ma_up (ma_up (ma_up (ma_up (ma_up h 69 (co 10 [vz, vz, vi 0, vi 0, vi 0, vz])) 70 (ci 32 (fun _ => 0))) 69 (co 10 [vr 70, vz, vi 0, vi 0, vi 0, vz])) 71 (cl 432 (fun _ => 0))) 69 (co 10 [vr 70, vr 71, vi 0, vi 0, vi 0, vz])) 72 (cl 9 (fun _ => 0))) 69 (co 10 [vr 70, vr 71, vi 0, vi 0, vi 0, vr 72])) 73) : ma_Ct mX10_init (d + 1) 3 473 [vr 69] (ma_up h 69 (co 10 [vz, vz, vi 0, vi 0, vi 0, vz])) 70 Q := by
  refine ma_Ct.of (by decide +kernel) (Nat.le_of_ble_eq_true rfl) ?_
  refine ma_aload_n dX10_init_0 rfl ?_
  refine ma_obj dX10_init_1 lX10_3 oi_i oi_c (by omega) (Nat.le_of_ble_eq_true rfl) ?_
  refine ma_aload_n dX10_init_4 rfl ?_
  refine ma_bipush dX10_init_5 ?_
  refine ma_newa (t := 0) (n := 32) dX10_init_7 (by decide) aw_0 (by decide) (by omega) ?_
  refine ma_putFr dX10_init_9 fX10_9 rfl ⟨_, _, rfl⟩ (by rfl) (Nat.le_of_ble_eq_true rfl) ?_
  refine ma_aload_n dX10_init_12 rfl ?_
  refine ma_sipush dX10_init_13 ?_
  refine ma_newa (t := 1) (n := 432) dX10_init_16 (by decide) aw_1 (by decide) (by omega) ?_
  refine ma_putFr dX10_init_18 fX10_15 rfl ⟨_, _, rfl⟩ (by rfl) (Nat.le_of_ble_eq_true rfl) ?_
  refine ma_aload_n dX10_init_21 rfl ?_
  refine ma_bipush dX10_init_22 ?_
  refine ma_newa (t := 1) (n := 9) dX10_init_24 (by decide) aw_1 (by decide) (by omega) ?_
  refine ma_putFr dX10_init_26 fX10_19 rfl ⟨_, _, rfl⟩ (by rfl) (Nat.le_of_ble_eq_true rfl) ?_
  refine ma_vret dX10_init_29 rfl ?_
  exact K
set_option maxHeartbeats 2000000 in
theorem c_X3_init {h : ma_H} {d : Nat} {Q : Option ma_V → ma_H → Nat → Prop} (K : Q none (ma_up (ma_up (ma_up (ma_up (ma_up (ma_up (ma_up (ma_up (ma_up (ma_up (ma_up (ma_up (ma_up (ma_up (ma_up (ma_up (ma_up (ma_up (ma_up (ma_up (ma_up (ma_up (ma_up (ma_up (ma_up (ma_up (ma_up h 13 (co 3 [vi 0, vi 0, vz])) 14 (cq 8 (fun _ => none))) 13 (co 3 [vi 0, vi 0, vr 14])) 15 (co 8 [vi 1, vr 16])) 16 (ci 32 (fun _ => -1))) 14 (cq 8 (uf (fun _ => none) 0 (some 15)))) 17 (co 8 [vi 1, vr 18])) 18 (ci 32 (fun _ => -1))) 14 (cq 8 (uf (uf (fun _ => none) 0 (some 15)) 1 (some 17)))) 19 (co 8 [vi 1, vr 20])) 20 (ci 32 (fun _ => -1))) 14 (cq 8 (uf (uf (uf (fun _ => none) 0 (some 15)) 1 (some 17)) 2 (some 19)))) 21 (co 8 [vi 1, vr 22])) 22 (ci 32 (fun _ => -1))) 14 (cq 8 (uf (uf (uf (uf (fun _ => none) 0 (some 15)) 1 (some 17)) 2 (some 19)) 3 (some 21)))) 23 (co 8 [vi 1, vr 24])) 24 (ci 32 (fun _ => -1))) 14 (cq 8 (uf (uf (uf (uf (uf (fun _ => none) 0 (some 15)) 1 (some 17)) 2 (some 19)) 3 (some 21)) 4 (some 23)))) 25 (co 8 [vi 1, vr 26])) 26 (ci 32 (fun _ => -1))) 14 (cq 8 (uf (uf (uf (uf (uf (uf (fun _ => none) 0 (some 15)) 1 (some 17)) 2 (some 19)) 3 (some 21)) 4 (some 23)) 5 (some 25)))) 27 (co 8 [vi 1, vr 28])) 28 (ci 32 (fun _ => -1))) 14 (cq 8 (uf (uf (uf (uf (uf (uf (uf (fun _ => none) 0 (some 15)) 1 (some 17)) 2 (some 19)) 3 (some 21)) 4 (some 23)) 5 (some 25)) 6 (some 27)))) 29 (co 8 [vi 1, vr 30])) 30 (ci 32 (fun _ => -1))) 14 (cq 8 (uf (uf (uf (uf (uf (uf (uf (uf (fun _ => none) 0 (some 15)) 1 (some 17)) 2 (some 19)) 3 (some 21)) 4 (some 23)) 5 (some 25)) 6 (some 27)) 7 (some 29)))) 31) : ma_Ct mX3_init (d + 2) 17 280 [vr 13] (ma_up h 13 (co 3 [vi 0, vi 0, vz])) 14 Q := by
  refine ma_Ct.of (by decide +kernel) (Nat.le_of_ble_eq_true rfl) ?_
  refine ma_aload_n dX3_init_0 rfl ?_
  refine ma_obj dX3_init_1 lX3_3 oi_i oi_c (by omega) (Nat.le_of_ble_eq_true rfl) ?_
  refine ma_aload_n dX3_init_4 rfl ?_
  refine ma_bipush dX3_init_5 ?_
  refine ma_newq (n := 8) dX3_init_7 nX3_11 (by decide) (by decide) (by omega) ?_
  refine ma_putFr dX3_init_10 fX3_13 rfl ⟨_, _, rfl⟩ (by rfl) (Nat.le_of_ble_eq_true rfl) ?_
  refine ma_iconst dX3_init_13 ?_
  refine ma_istore_nN dX3_init_14 (by decide) rfl ?_
  show ma_J _ _ _ _ _ 15 [some (vr 13), some (vi 0)] [] _ _ _
  refine ma_iload_n dX3_init_15 rfl ?_
  refine ma_bipush dX3_init_16 ?_
  refine ma_rcmp_ge 40 dX3_init_18 rfl (by decide) (by decide) (fun c18 => absurd c18 (by decide)) (fun c18 => ?_)
  refine ma_aload_n dX3_init_21 rfl ?_
  refine ma_getf dX3_init_22 fX3_13 (by rfl) (by rfl) ?_
  refine ma_iload_n dX3_init_25 rfl ?_
  refine ma_new (N := 2) dX3_init_26 kX8 nX3_11 pX8 qX8 oX8 (by omega) ?_
  refine ma_dup dX3_init_29 rfl ?_
  refine ma_callI (d' := d + 1) (mc := 1) (ms := 32) [] dX3_init_30 wX8_init lX3_17 iX8_init rfl rfl (by omega) (Nat.le_of_ble_eq_true rfl) ?_
  refine c_X8_init (by decide) (by decide) ?_
  refine ma_aast dX3_init_33 (by rfl) (by rfl) (by omega) (by omega) (by omega) ?_
  refine ma_iincK (1) dX3_init_34 rfl (by decide) rfl (by decide) ?_
  refine ma_goto 15 dX3_init_37 rfl ?_
  show ma_J _ _ _ _ _ 15 [some (vr 13), some (vi 1)] [] _ _ _
  refine ma_iload_n dX3_init_15 rfl ?_
  refine ma_bipush dX3_init_16 ?_
  refine ma_rcmp_ge 40 dX3_init_18 rfl (by decide) (by decide) (fun c18 => absurd c18 (by decide)) (fun c18 => ?_)
  refine ma_aload_n dX3_init_21 rfl ?_
  refine ma_getf dX3_init_22 fX3_13 (by rfl) (by rfl) ?_
  refine ma_iload_n dX3_init_25 rfl ?_
  refine ma_new (N := 2) dX3_init_26 kX8 nX3_11 pX8 qX8 oX8 (by omega) ?_
  refine ma_dup dX3_init_29 rfl ?_
  refine ma_callI (d' := d + 1) (mc := 1) (ms := 32) [] dX3_init_30 wX8_init lX3_17 iX8_init rfl rfl (by omega) (Nat.le_of_ble_eq_true rfl) ?_
  refine c_X8_init (by decide) (by decide) ?_
  refine ma_aast dX3_init_33 (by rfl) (by rfl) (by omega) (by omega) (by omega) ?_
  refine ma_iincK (2) dX3_init_34 rfl (by decide) rfl (by decide) ?_
  refine ma_goto 15 dX3_init_37 rfl ?_
  show ma_J _ _ _ _ _ 15 [some (vr 13), some (vi 2)] [] _ _ _
  refine ma_iload_n dX3_init_15 rfl ?_
  refine ma_bipush dX3_init_16 ?_
  refine ma_rcmp_ge 40 dX3_init_18 rfl (by decide) (by decide) (fun c18 => absurd c18 (by decide)) (fun c18 => ?_)
  refine ma_aload_n dX3_init_21 rfl ?_
  refine ma_getf dX3_init_22 fX3_13 (by rfl) (by rfl) ?_
  refine ma_iload_n dX3_init_25 rfl ?_
  refine ma_new (N := 2) dX3_init_26 kX8 nX3_11 pX8 qX8 oX8 (by omega) ?_
  refine ma_dup dX3_init_29 rfl ?_
  refine ma_callI (d' := d + 1) (mc := 1) (ms := 32) [] dX3_init_30 wX8_init lX3_17 iX8_init rfl rfl (by omega) (Nat.le_of_ble_eq_true rfl) ?_
  refine c_X8_init (by decide) (by decide) ?_
  refine ma_aast dX3_init_33 (by rfl) (by rfl) (by omega) (by omega) (by omega) ?_
  refine ma_iincK (3) dX3_init_34 rfl (by decide) rfl (by decide) ?_
  refine ma_goto 15 dX3_init_37 rfl ?_
  show ma_J _ _ _ _ _ 15 [some (vr 13), some (vi 3)] [] _ _ _
  refine ma_iload_n dX3_init_15 rfl ?_
  refine ma_bipush dX3_init_16 ?_
  refine ma_rcmp_ge 40 dX3_init_18 rfl (by decide) (by decide) (fun c18 => absurd c18 (by decide)) (fun c18 => ?_)
  refine ma_aload_n dX3_init_21 rfl ?_
  refine ma_getf dX3_init_22 fX3_13 (by rfl) (by rfl) ?_
  refine ma_iload_n dX3_init_25 rfl ?_
  refine ma_new (N := 2) dX3_init_26 kX8 nX3_11 pX8 qX8 oX8 (by omega) ?_
  refine ma_dup dX3_init_29 rfl ?_
  refine ma_callI (d' := d + 1) (mc := 1) (ms := 32) [] dX3_init_30 wX8_init lX3_17 iX8_init rfl rfl (by omega) (Nat.le_of_ble_eq_true rfl) ?_
  refine c_X8_init (by decide) (by decide) ?_
  refine ma_aast dX3_init_33 (by rfl) (by rfl) (by omega) (by omega) (by omega) ?_
  refine ma_iincK (4) dX3_init_34 rfl (by decide) rfl (by decide) ?_
  refine ma_goto 15 dX3_init_37 rfl ?_
  show ma_J _ _ _ _ _ 15 [some (vr 13), some (vi 4)] [] _ _ _
  refine ma_iload_n dX3_init_15 rfl ?_
  refine ma_bipush dX3_init_16 ?_
  refine ma_rcmp_ge 40 dX3_init_18 rfl (by decide) (by decide) (fun c18 => absurd c18 (by decide)) (fun c18 => ?_)
  refine ma_aload_n dX3_init_21 rfl ?_
  refine ma_getf dX3_init_22 fX3_13 (by rfl) (by rfl) ?_
  refine ma_iload_n dX3_init_25 rfl ?_
  refine ma_new (N := 2) dX3_init_26 kX8 nX3_11 pX8 qX8 oX8 (by omega) ?_
  refine ma_dup dX3_init_29 rfl ?_
  refine ma_callI (d' := d + 1) (mc := 1) (ms := 32) [] dX3_init_30 wX8_init lX3_17 iX8_init rfl rfl (by omega) (Nat.le_of_ble_eq_true rfl) ?_
  refine c_X8_init (by decide) (by decide) ?_
  refine ma_aast dX3_init_33 (by rfl) (by rfl) (by omega) (by omega) (by omega) ?_
  refine ma_iincK (5) dX3_init_34 rfl (by decide) rfl (by decide) ?_
  refine ma_goto 15 dX3_init_37 rfl ?_
  show ma_J _ _ _ _ _ 15 [some (vr 13), some (vi 5)] [] _ _ _
  refine ma_iload_n dX3_init_15 rfl ?_
  refine ma_bipush dX3_init_16 ?_
  refine ma_rcmp_ge 40 dX3_init_18 rfl (by decide) (by decide) (fun c18 => absurd c18 (by decide)) (fun c18 => ?_)
  refine ma_aload_n dX3_init_21 rfl ?_
  refine ma_getf dX3_init_22 fX3_13 (by rfl) (by rfl) ?_
  refine ma_iload_n dX3_init_25 rfl ?_
  refine ma_new (N := 2) dX3_init_26 kX8 nX3_11 pX8 qX8 oX8 (by omega) ?_
  refine ma_dup dX3_init_29 rfl ?_
  refine ma_callI (d' := d + 1) (mc := 1) (ms := 32) [] dX3_init_30 wX8_init lX3_17 iX8_init rfl rfl (by omega) (Nat.le_of_ble_eq_true rfl) ?_
  refine c_X8_init (by decide) (by decide) ?_
  refine ma_aast dX3_init_33 (by rfl) (by rfl) (by omega) (by omega) (by omega) ?_
  refine ma_iincK (6) dX3_init_34 rfl (by decide) rfl (by decide) ?_
  refine ma_goto 15 dX3_init_37 rfl ?_
  show ma_J _ _ _ _ _ 15 [some (vr 13), some (vi 6)] [] _ _ _
  refine ma_iload_n dX3_init_15 rfl ?_
  refine ma_bipush dX3_init_16 ?_
  refine ma_rcmp_ge 40 dX3_init_18 rfl (by decide) (by decide) (fun c18 => absurd c18 (by decide)) (fun c18 => ?_)
  refine ma_aload_n dX3_init_21 rfl ?_
  refine ma_getf dX3_init_22 fX3_13 (by rfl) (by rfl) ?_
  refine ma_iload_n dX3_init_25 rfl ?_
  refine ma_new (N := 2) dX3_init_26 kX8 nX3_11 pX8 qX8 oX8 (by omega) ?_
  refine ma_dup dX3_init_29 rfl ?_
  refine ma_callI (d' := d + 1) (mc := 1) (ms := 32) [] dX3_init_30 wX8_init lX3_17 iX8_init rfl rfl (by omega) (Nat.le_of_ble_eq_true rfl) ?_
  refine c_X8_init (by decide) (by decide) ?_
  refine ma_aast dX3_init_33 (by rfl) (by rfl) (by omega) (by omega) (by omega) ?_
  refine ma_iincK (7) dX3_init_34 rfl (by decide) rfl (by decide) ?_
  refine ma_goto 15 dX3_init_37 rfl ?_
  show ma_J _ _ _ _ _ 15 [some (vr 13), some (vi 7)] [] _ _ _
  refine ma_iload_n dX3_init_15 rfl ?_
  refine ma_bipush dX3_init_16 ?_
  refine ma_rcmp_ge 40 dX3_init_18 rfl (by decide) (by decide) (fun c18 => absurd c18 (by decide)) (fun c18 => ?_)
  refine ma_aload_n dX3_init_21 rfl ?_
  refine ma_getf dX3_init_22 fX3_13 (by rfl) (by rfl) ?_
  refine ma_iload_n dX3_init_25 rfl ?_
  refine ma_new (N := 2) dX3_init_26 kX8 nX3_11 pX8 qX8 oX8 (by omega) ?_
  refine ma_dup dX3_init_29 rfl ?_
  refine ma_callI (d' := d + 1) (mc := 1) (ms := 32) [] dX3_init_30 wX8_init lX3_17 iX8_init rfl rfl (by omega) (Nat.le_of_ble_eq_true rfl) ?_
  refine c_X8_init (by decide) (by decide) ?_
  refine ma_aast dX3_init_33 (by rfl) (by rfl) (by omega) (by omega) (by omega) ?_
  refine ma_iincK (8) dX3_init_34 rfl (by decide) rfl (by decide) ?_
  refine ma_goto 15 dX3_init_37 rfl ?_
  show ma_J _ _ _ _ _ 15 [some (vr 13), some (vi 8)] [] _ _ _
  refine ma_iload_n dX3_init_15 rfl ?_
  refine ma_bipush dX3_init_16 ?_
  refine ma_rcmp_ge 40 dX3_init_18 rfl (by decide) (by decide) (fun c18 => ?_) (fun c18 => absurd c18 (by decide))
  refine ma_vret dX3_init_40 rfl ?_
  exact K
set_option maxHeartbeats 2000000 in
theorem c_X1_init {h : ma_H} {d : Nat} {Q : Option ma_V → ma_H → Nat → Prop} (K : Q none (ma_up (ma_up (ma_up (ma_up (ma_up (ma_up (ma_up (ma_up (ma_up (ma_up h 54 (co 1 [vz, vz, vz, vz, vz])) 55 (co 8 [vi 1, vr 56])) 56 (ci 32 (fun _ => -1))) 54 (co 1 [vz, vz, vr 55, vz, vz])) 57 (ci 32 (fun _ => 0))) 54 (co 1 [vz, vz, vr 55, vr 57, vz])) 58 (ci 32 (fun _ => 0))) 54 (co 1 [vz, vz, vr 55, vr 57, vr 58])) 54 (co 1 [vr 44, vz, vr 55, vr 57, vr 58])) 54 (co 1 [vr 44, vr 39, vr 55, vr 57, vr 58])) 59) : ma_Ct mX1_init (d + 2) 4 98 [vr 54, vr 44, vr 39] (ma_up h 54 (co 1 [vz, vz, vz, vz, vz])) 55 Q := by
  refine ma_Ct.of (by decide +kernel) (Nat.le_of_ble_eq_true rfl) ?_
  refine ma_aload_n dX1_init_0 rfl ?_
  refine ma_obj dX1_init_1 lX1_3 oi_i oi_c (by omega) (Nat.le_of_ble_eq_true rfl) ?_
  refine ma_aload_n dX1_init_4 rfl ?_
  refine ma_new (N := 2) dX1_init_5 kX8 nX1_9 pX8 qX8 oX8 (by omega) ?_
  refine ma_dup dX1_init_8 rfl ?_
  refine ma_callI (d' := d + 1) (mc := 1) (ms := 32) [] dX1_init_9 wX8_init lX1_11 iX8_init rfl rfl (by omega) (Nat.le_of_ble_eq_true rfl) ?_
  refine c_X8_init (by decide) (by decide) ?_
  refine ma_putFr dX1_init_12 fX1_12 rfl ⟨_, _, rfl⟩ (by rfl) (Nat.le_of_ble_eq_true rfl) ?_
  refine ma_aload_n dX1_init_15 rfl ?_
  refine ma_bipush dX1_init_16 ?_
  refine ma_newa (t := 0) (n := 32) dX1_init_18 (by decide) aw_0 (by decide) (by omega) ?_
  refine ma_putFr dX1_init_20 fX1_18 rfl ⟨_, _, rfl⟩ (by rfl) (Nat.le_of_ble_eq_true rfl) ?_
  refine ma_aload_n dX1_init_23 rfl ?_
  refine ma_bipush dX1_init_24 ?_
  refine ma_newa (t := 0) (n := 32) dX1_init_26 (by decide) aw_0 (by decide) (by omega) ?_
  refine ma_putFr dX1_init_28 fX1_22 rfl ⟨_, _, rfl⟩ (by rfl) (Nat.le_of_ble_eq_true rfl) ?_
  refine ma_aload_n dX1_init_31 rfl ?_
  refine ma_aload_n dX1_init_32 rfl ?_
  refine ma_putFr dX1_init_33 fX1_25 rfl ⟨_, _, rfl⟩ (by rfl) (Nat.le_of_ble_eq_true rfl) ?_
  refine ma_aload_n dX1_init_36 rfl ?_
  refine ma_aload_n dX1_init_37 rfl ?_
  refine ma_putFr dX1_init_38 fX1_29 rfl ⟨_, _, rfl⟩ (by rfl) (Nat.le_of_ble_eq_true rfl) ?_
  refine ma_vret dX1_init_41 rfl ?_
  exact K
set_option maxHeartbeats 2000000 in
theorem c_X6_init {h : ma_H} {d : Nat} {Q : Option ma_V → ma_H → Nat → Prop} (K : Q none (ma_up (ma_up (ma_up (ma_up (ma_up (ma_up (ma_up (ma_up (ma_up (ma_up (ma_up (ma_up (ma_up (ma_up (ma_up (ma_up (ma_up (ma_up (ma_up h 59 (co 6 [vz, vz, vz, vz, vz, vz])) 60 (co 8 [vi 1, vr 61])) 61 (ci 32 (fun _ => -1))) 59 (co 6 [vz, vz, vr 60, vz, vz, vz])) 62 (co 8 [vi 1, vr 63])) 63 (ci 32 (fun _ => -1))) 59 (co 6 [vz, vz, vr 60, vr 62, vz, vz])) 64 (co 0 [vi 0, vz, vz, vz])) 65 (ci 40 (fun _ => 0))) 64 (co 0 [vi 0, vr 65, vz, vz])) 66 (ci 40 (fun _ => 0))) 64 (co 0 [vi 0, vr 65, vr 66, vz])) 67 (ci 1280 (fun _ => 0))) 64 (co 0 [vi 0, vr 65, vr 66, vr 67])) 59 (co 6 [vz, vz, vr 60, vr 62, vr 64, vz])) 68 (ci 4 (fun _ => 0))) 59 (co 6 [vz, vz, vr 60, vr 62, vr 64, vr 68])) 59 (co 6 [vr 54, vz, vr 60, vr 62, vr 64, vr 68])) 59 (co 6 [vr 54, vr 44, vr 60, vr 62, vr 64, vr 68])) 69) : ma_Ct mX6_init (d + 2) 9 1436 [vr 59, vr 54, vr 44] (ma_up h 59 (co 6 [vz, vz, vz, vz, vz, vz])) 60 Q := by
  refine ma_Ct.of (by decide +kernel) (Nat.le_of_ble_eq_true rfl) ?_
  refine ma_aload_n dX6_init_0 rfl ?_
  refine ma_obj dX6_init_1 lX6_3 oi_i oi_c (by omega) (Nat.le_of_ble_eq_true rfl) ?_
  refine ma_aload_n dX6_init_4 rfl ?_
  refine ma_new (N := 2) dX6_init_5 kX8 nX6_9 pX8 qX8 oX8 (by omega) ?_
  refine ma_dup dX6_init_8 rfl ?_
  refine ma_callI (d' := d + 1) (mc := 1) (ms := 32) [] dX6_init_9 wX8_init lX6_11 iX8_init rfl rfl (by omega) (Nat.le_of_ble_eq_true rfl) ?_
  refine c_X8_init (by decide) (by decide) ?_
  refine ma_putFr dX6_init_12 fX6_12 rfl ⟨_, _, rfl⟩ (by rfl) (Nat.le_of_ble_eq_true rfl) ?_
  refine ma_aload_n dX6_init_15 rfl ?_
  refine ma_new (N := 2) dX6_init_16 kX8 nX6_9 pX8 qX8 oX8 (by omega) ?_
  refine ma_dup dX6_init_19 rfl ?_
  refine ma_callI (d' := d + 1) (mc := 1) (ms := 32) [] dX6_init_20 wX8_init lX6_11 iX8_init rfl rfl (by omega) (Nat.le_of_ble_eq_true rfl) ?_
  refine c_X8_init (by decide) (by decide) ?_
  refine ma_putFr dX6_init_23 fX6_18 rfl ⟨_, _, rfl⟩ (by rfl) (Nat.le_of_ble_eq_true rfl) ?_
  refine ma_aload_n dX6_init_26 rfl ?_
  refine ma_new (N := 4) dX6_init_27 kX0 nX6_21 pX0 qX0 oX0 (by omega) ?_
  refine ma_dup dX6_init_30 rfl ?_
  refine ma_callIN (d' := d + 1) (mc := 3) (ms := 1360) [] dX6_init_31 wX0_init lX6_23 iX0_init rfl rfl (by omega) (Nat.le_of_ble_eq_true rfl) ?_
  refine c_X0_init ?_
  refine ma_putFr dX6_init_34 fX6_24 rfl ⟨_, _, rfl⟩ (by rfl) (Nat.le_of_ble_eq_true rfl) ?_
  refine ma_aload_n dX6_init_37 rfl ?_
  refine ma_iconst dX6_init_38 ?_
  refine ma_newa (t := 0) (n := 4) dX6_init_39 (by decide) aw_0 (by decide) (by omega) ?_
  refine ma_putFr dX6_init_41 fX6_28 rfl ⟨_, _, rfl⟩ (by rfl) (Nat.le_of_ble_eq_true rfl) ?_
  refine ma_aload_n dX6_init_44 rfl ?_
  refine ma_aload_n dX6_init_45 rfl ?_
  refine ma_putFr dX6_init_46 fX6_32 rfl ⟨_, _, rfl⟩ (by rfl) (Nat.le_of_ble_eq_true rfl) ?_
  refine ma_aload_n dX6_init_49 rfl ?_
  refine ma_aload_n dX6_init_50 rfl ?_
  refine ma_putFr dX6_init_51 fX6_36 rfl ⟨_, _, rfl⟩ (by rfl) (Nat.le_of_ble_eq_true rfl) ?_
  refine ma_vret dX6_init_54 rfl ?_
  exact K
