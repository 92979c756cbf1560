def ih0 (h : ma_H) : ma_H := (ma_up (ma_up (ma_up (ma_up (ma_up (ma_up (ma_up (ma_up (ma_up (ma_up (ma_up (ma_up (ma_up (ma_up (ma_up (ma_up (ma_up (ma_up (ma_up (ma_up (ma_up (ma_up (ma_up (ma_up (ma_up (ma_up (ma_up (ma_up (ma_up (ma_up (ma_up (ma_up (ma_up (ma_up (ma_up (ma_up (ma_up (ma_up (ma_up (ma_up (ma_up (ma_up (ma_up (ma_up (ma_up (ma_up (ma_up (ma_up (ma_up (ma_up (ma_up (ma_up (ma_up (ma_up (ma_up (ma_up (ma_up (ma_up (ma_up (ma_up (ma_up (ma_up (ma_up (ma_up (ma_up (ma_up (ma_up (ma_up (ma_up (ma_up (ma_up (ma_up (ma_up (ma_up (ma_up (ma_up (ma_up (ma_up (ma_up (ma_up (ma_up (ma_up (ma_up (ma_up (ma_up (ma_up (ma_up (ma_up (ma_up (ma_up (ma_up (ma_up (ma_up (ma_up (ma_up (ma_up (ma_up (ma_up (ma_up (ma_up (ma_up (ma_up (ma_up (ma_up (ma_up (ma_up (ma_up (ma_up (ma_up (ma_up (ma_up (ma_up (ma_up (ma_up (ma_up (ma_up (ma_up (ma_up (ma_up (ma_up (ma_up (ma_up (ma_up (ma_up (ma_up (ma_up (ma_up (ma_up (ma_up (ma_up (ma_up (ma_up (ma_up h 0 (co 11 [vz, vz, vz, vz, vz, vz, vz, vz, vz, vz, vz, vz, vz, vz, vi 0])) 1 (co 8 [vi 1, vr 2])) 2 (ci 32 (fun _ => -1))) 0 (co 11 [vr 1, vz, vz, vz, vz, vz, vz, vz, vz, vz, vz, vz, vz, vz, vi 0])) 3 (co 8 [vi 1, vr 4])) 4 (ci 32 (fun _ => -1))) 0 (co 11 [vr 1, vr 3, vz, vz, vz, vz, vz, vz, vz, vz, vz, vz, vz, vz, vi 0])) 5 (co 8 [vi 1, vr 6])) 6 (ci 32 (fun _ => -1))) 0 (co 11 [vr 1, vr 3, vr 5, vz, vz, vz, vz, vz, vz, vz, vz, vz, vz, vz, vi 0])) 7 (cq 2 (fun _ => none))) 0 (co 11 [vr 1, vr 3, vr 5, vr 7, vz, vz, vz, vz, vz, vz, vz, vz, vz, vz, vi 0])) 8 (co 8 [vi 1, vr 9])) 9 (ci 32 (fun _ => -1))) 7 (cq 2 (uf (fun _ => none) 0 (some 8)))) 10 (co 8 [vi 1, vr 11])) 11 (ci 32 (fun _ => -1))) 7 (cq 2 (uf (uf (fun _ => none) 0 (some 8)) 1 (some 10)))) 12 (cz 2 (fun _ => 0))) 0 (co 11 [vr 1, vr 3, vr 5, vr 7, vr 12, vz, vz, vz, vz, vz, vz, vz, vz, vz, vi 0])) 13 (co 3 [vi 0, vi 0, vz])) 14 (cq 8 (fun _ => none))) 13 (co 3 [vi 0, vi 0, vr 14])) 15 (co 8 [vi 1, vr 16])) 16 (ci 32 (fun _ => -1))) 14 (cq 8 (uf (fun _ => none) 0 (some 15)))) 17 (co 8 [vi 1, vr 18])) 18 (ci 32 (fun _ => -1))) 14 (cq 8 (uf (uf (fun _ => none) 0 (some 15)) 1 (some 17)))) 19 (co 8 [vi 1, vr 20])) 20 (ci 32 (fun _ => -1))) 14 (cq 8 (uf (uf (uf (fun _ => none) 0 (some 15)) 1 (some 17)) 2 (some 19)))) 21 (co 8 [vi 1, vr 22])) 22 (ci 32 (fun _ => -1))) 14 (cq 8 (uf (uf (uf (uf (fun _ => none) 0 (some 15)) 1 (some 17)) 2 (some 19)) 3 (some 21)))) 23 (co 8 [vi 1, vr 24])) 24 (ci 32 (fun _ => -1))) 14 (cq 8 (uf (uf (uf (uf (uf (fun _ => none) 0 (some 15)) 1 (some 17)) 2 (some 19)) 3 (some 21)) 4 (some 23)))) 25 (co 8 [vi 1, vr 26])) 26 (ci 32 (fun _ => -1))) 14 (cq 8 (uf (uf (uf (uf (uf (uf (fun _ => none) 0 (some 15)) 1 (some 17)) 2 (some 19)) 3 (some 21)) 4 (some 23)) 5 (some 25)))) 27 (co 8 [vi 1, vr 28])) 28 (ci 32 (fun _ => -1))) 14 (cq 8 (uf (uf (uf (uf (uf (uf (uf (fun _ => none) 0 (some 15)) 1 (some 17)) 2 (some 19)) 3 (some 21)) 4 (some 23)) 5 (some 25)) 6 (some 27)))) 29 (co 8 [vi 1, vr 30])) 30 (ci 32 (fun _ => -1))) 14 (cq 8 (uf (uf (uf (uf (uf (uf (uf (uf (fun _ => none) 0 (some 15)) 1 (some 17)) 2 (some 19)) 3 (some 21)) 4 (some 23)) 5 (some 25)) 6 (some 27)) 7 (some 29)))) 0 (co 11 [vr 1, vr 3, vr 5, vr 7, vr 12, vr 13, vz, vz, vz, vz, vz, vz, vz, vz, vi 0])) 31 (co 9 [vi 0, vz])) 32 (cl 65 (fun _ => 0))) 31 (co 9 [vi 0, vr 32])) 0 (co 11 [vr 1, vr 3, vr 5, vr 7, vr 12, vr 13, vr 31, vz, vz, vz, vz, vz, vz, vz, vi 0])) 33 (co 5 [vi 0, vz, vi 0, vz])) 34 (ci 80 (fun _ => 0))) 33 (co 5 [vi 0, vr 34, vi 0, vz])) 35 (ci 160 (fun _ => 0))) 33 (co 5 [vi 0, vr 34, vi 0, vr 35])) 0 (co 11 [vr 1, vr 3, vr 5, vr 7, vr 12, vr 13, vr 31, vr 33, vz, vz, vz, vz, vz, vz, vi 0])) 36 (co 4 [vi 0, vz, vz])) 37 (ci 8 (fun _ => 0))) 36 (co 4 [vi 0, vr 37, vz])) 38 (ci 8 (fun _ => 0))) 36 (co 4 [vi 0, vr 37, vr 38])) 0 (co 11 [vr 1, vr 3, vr 5, vr 7, vr 12, vr 13, vr 31, vr 33, vr 36, vz, vz, vz, vz, vz, vi 0])) 39 (co 2 [vz, vz, vz, vz])) 40 (ci 32 (fun _ => 0))) 39 (co 2 [vr 40, vz, vz, vz])) 41 (ci 8 (fun _ => 0))) 39 (co 2 [vr 40, vr 41, vz, vz])) 42 (ci 8 (fun _ => 0))) 39 (co 2 [vr 40, vr 41, vr 42, vz])) 43 (ci 8 (fun _ => 0))) 39 (co 2 [vr 40, vr 41, vr 42, vr 43])) 0 (co 11 [vr 1, vr 3, vr 5, vr 7, vr 12, vr 13, vr 31, vr 33, vr 36, vr 39, vz, vz, vz, vz, vi 0])) 44 (co 7 [vz, vz, vz, vz, vz, vz, vz, vz, vi 0, vi 0, vz])) 45 (ci 128 (fun _ => 0))) 44 (co 7 [vr 45, vz, vz, vz, vz, vz, vz, vz, vi 0, vi 0, vz])) 46 (ci 128 (fun _ => 0))) 44 (co 7 [vr 45, vr 46, vz, vz, vz, vz, vz, vz, vi 0, vi 0, vz])) 47 (ci 128 (fun _ => 0))) 44 (co 7 [vr 45, vr 46, vr 47, vz, vz, vz, vz, vz, vi 0, vi 0, vz])) 48 (cz 128 (fun _ => 0))) 44 (co 7 [vr 45, vr 46, vr 47, vr 48, vz, vz, vz, vz, vi 0, vi 0, vz])) 49 (ci 32 (fun _ => 0))) 44 (co 7 [vr 45, vr 46, vr 47, vr 48, vr 49, vz, vz, vz, vi 0, vi 0, vz])) 50 (ci 32 (fun _ => 0))) 44 (co 7 [vr 45, vr 46, vr 47, vr 48, vr 49, vr 50, vz, vz, vi 0, vi 0, vz])) 51 (ci 32 (fun _ => 0))) 44 (co 7 [vr 45, vr 46, vr 47, vr 48, vr 49, vr 50, vr 51, vz, vi 0, vi 0, vz])) 52 (ci 32 (fun _ => 0))) 44 (co 7 [vr 45, vr 46, vr 47, vr 48, vr 49, vr 50, vr 51, vr 52, vi 0, vi 0, vz])) 53 (ci 128 (fun _ => 0))) 44 (co 7 [vr 45, vr 46, vr 47, vr 48, vr 49, vr 50, vr 51, vr 52, vi 0, vi 0, vr 53])) 0 (co 11 [vr 1, vr 3, vr 5, vr 7, vr 12, vr 13, vr 31, vr 33, vr 36, vr 39, vr 44, vz, vz, vz, vi 0])) 54 (co 1 [vz, vz, vz, vz, vz])) 55 (co 8 [vi 1, vr 56])) 56 (ci 32 (fun _ => -1))) 54 (co 1 [vz, vz, vr 55, vz, vz])) 57 (ci 32 (fun _ => 0))) 54 (co 1 [vz, vz, vr 55, vr 57, vz])) 58 (ci 32 (fun _ => 0))) 54 (co 1 [vz, vz, vr 55, vr 57, vr 58])) 54 (co 1 [vr 44, vz, vr 55, vr 57, vr 58])) 54 (co 1 [vr 44, vr 39, vr 55, vr 57, vr 58])) 0 (co 11 [vr 1, vr 3, vr 5, vr 7, vr 12, vr 13, vr 31, vr 33, vr 36, vr 39, vr 44, vr 54, vz, vz, vi 0])) 59 (co 6 [vz, vz, vz, vz, vz, vz])) 60 (co 8 [vi 1, vr 61])) 61 (ci 32 (fun _ => -1))) 59 (co 6 [vz, vz, vr 60, vz, vz, vz])) 62 (co 8 [vi 1, vr 63])) 63 (ci 32 (fun _ => -1))) 59 (co 6 [vz, vz, vr 60, vr 62, vz, vz])) 64 (co 0 [vi 0, vz, vz, vz])) 65 (ci 40 (fun _ => 0))) 64 (co 0 [vi 0, vr 65, vz, vz])) 66 (ci 40 (fun _ => 0))) 64 (co 0 [vi 0, vr 65, vr 66, vz])) 67 (ci 1280 (fun _ => 0))) 64 (co 0 [vi 0, vr 65, vr 66, vr 67])) 59 (co 6 [vz, vz, vr 60, vr 62, vr 64, vz])) 68 (ci 4 (fun _ => 0))) 59 (co 6 [vz, vz, vr 60, vr 62, vr 64, vr 68])) 59 (co 6 [vr 54, vz, vr 60, vr 62, vr 64, vr 68])) 59 (co 6 [vr 54, vr 44, vr 60, vr 62, vr 64, vr 68])) 0 (co 11 [vr 1, vr 3, vr 5, vr 7, vr 12, vr 13, vr 31, vr 33, vr 36, vr 39, vr 44, vr 54, vr 59, vz, vi 0])) 69 (co 10 [vz, vz, vi 0, vi 0, vi 0, vz])) 70 (ci 32 (fun _ => 0))) 69 (co 10 [vr 70, vz, vi 0, vi 0, vi 0, vz])) 71 (cl 432 (fun _ => 0))) 69 (co 10 [vr 70, vr 71, vi 0, vi 0, vi 0, vz])) 72 (cl 9 (fun _ => 0))) 69 (co 10 [vr 70, vr 71, vi 0, vi 0, vi 0, vr 72])) 0 (co 11 [vr 1, vr 3, vr 5, vr 7, vr 12, vr 13, vr 31, vr 33, vr 36, vr 39, vr 44, vr 54, vr 59, vr 69, vi 0]))
set_option maxHeartbeats 2000000 in
theorem c_X11_init {h : ma_H} {d : Nat} {Q : Option ma_V → ma_H → Nat → Prop} (K : Q none (ih0 h) 73) : ma_Ct mX11_init (d + 3) 72 3650 [vr 0] (ma_up h 0 (co 11 [vz, vz, vz, vz, vz, vz, vz, vz, vz, vz, vz, vz, vz, vz, vi 0])) 1 Q := by
  refine ma_Ct.of (by decide +kernel) (Nat.le_of_ble_eq_true rfl) ?_
  refine ma_aload_n dX11_init_0 rfl ?_
  refine ma_obj dX11_init_1 lX11_1 oi_i oi_c (by omega) (Nat.le_of_ble_eq_true rfl) ?_
  refine ma_aload_n dX11_init_4 rfl ?_
  refine ma_new (N := 2) dX11_init_5 kX8 nX11_7 pX8 qX8 oX8 (by omega) ?_
  refine ma_dup dX11_init_8 rfl ?_
  refine ma_callI (d' := d + 2) (mc := 1) (ms := 32) [] dX11_init_9 wX8_init lX11_9 iX8_init rfl rfl (by omega) (Nat.le_of_ble_eq_true rfl) ?_
  refine c_X8_init (by decide) (by decide) ?_
  refine ma_putFr dX11_init_12 fX11_10 rfl ⟨_, _, rfl⟩ (by rfl) (Nat.le_of_ble_eq_true rfl) ?_
  refine ma_aload_n dX11_init_15 rfl ?_
  refine ma_new (N := 2) dX11_init_16 kX8 nX11_7 pX8 qX8 oX8 (by omega) ?_
  refine ma_dup dX11_init_19 rfl ?_
  refine ma_callI (d' := d + 2) (mc := 1) (ms := 32) [] dX11_init_20 wX8_init lX11_9 iX8_init rfl rfl (by omega) (Nat.le_of_ble_eq_true rfl) ?_
  refine c_X8_init (by decide) (by decide) ?_
  refine ma_putFr dX11_init_23 fX11_16 rfl ⟨_, _, rfl⟩ (by rfl) (Nat.le_of_ble_eq_true rfl) ?_
  refine ma_aload_n dX11_init_26 rfl ?_
  refine ma_new (N := 2) dX11_init_27 kX8 nX11_7 pX8 qX8 oX8 (by omega) ?_
  refine ma_dup dX11_init_30 rfl ?_
  refine ma_callI (d' := d + 2) (mc := 1) (ms := 32) [] dX11_init_31 wX8_init lX11_9 iX8_init rfl rfl (by omega) (Nat.le_of_ble_eq_true rfl) ?_
  refine c_X8_init (by decide) (by decide) ?_
  refine ma_putFr dX11_init_34 fX11_19 rfl ⟨_, _, rfl⟩ (by rfl) (Nat.le_of_ble_eq_true rfl) ?_
  refine ma_aload_n dX11_init_37 rfl ?_
  refine ma_iconst dX11_init_38 ?_
  refine ma_newq (n := 2) dX11_init_39 nX11_7 (by decide) (by decide) (by omega) ?_
  refine ma_putFr dX11_init_42 fX11_22 rfl ⟨_, _, rfl⟩ (by rfl) (Nat.le_of_ble_eq_true rfl) ?_
  refine ma_iconst dX11_init_45 ?_
  refine ma_istore_nN dX11_init_46 (by decide) rfl ?_
  show ma_J _ _ _ _ _ 47 [some (vr 0), some (vi 0)] [] _ _ _
  refine ma_iload_n dX11_init_47 rfl ?_
  refine ma_iconst dX11_init_48 ?_
  refine ma_rcmp_ge 71 dX11_init_49 rfl (by decide) (by decide) (fun c49 => absurd c49 (by decide)) (fun c49 => ?_)
  refine ma_aload_n dX11_init_52 rfl ?_
  refine ma_getf dX11_init_53 fX11_22 (by rfl) (by rfl) ?_
  refine ma_iload_n dX11_init_56 rfl ?_
  refine ma_new (N := 2) dX11_init_57 kX8 nX11_7 pX8 qX8 oX8 (by omega) ?_
  refine ma_dup dX11_init_60 rfl ?_
  refine ma_callI (d' := d + 2) (mc := 1) (ms := 32) [] dX11_init_61 wX8_init lX11_9 iX8_init rfl rfl (by omega) (Nat.le_of_ble_eq_true rfl) ?_
  refine c_X8_init (by decide) (by decide) ?_
  refine ma_aast dX11_init_64 (by rfl) (by rfl) (by omega) (by omega) (by omega) ?_
  refine ma_iincK (1) dX11_init_65 rfl (by decide) rfl (by decide) ?_
  refine ma_goto 47 dX11_init_68 rfl ?_
  show ma_J _ _ _ _ _ 47 [some (vr 0), some (vi 1)] [] _ _ _
  refine ma_iload_n dX11_init_47 rfl ?_
  refine ma_iconst dX11_init_48 ?_
  refine ma_rcmp_ge 71 dX11_init_49 rfl (by decide) (by decide) (fun c49 => absurd c49 (by decide)) (fun c49 => ?_)
  refine ma_aload_n dX11_init_52 rfl ?_
  refine ma_getf dX11_init_53 fX11_22 (by rfl) (by rfl) ?_
  refine ma_iload_n dX11_init_56 rfl ?_
  refine ma_new (N := 2) dX11_init_57 kX8 nX11_7 pX8 qX8 oX8 (by omega) ?_
  refine ma_dup dX11_init_60 rfl ?_
  refine ma_callI (d' := d + 2) (mc := 1) (ms := 32) [] dX11_init_61 wX8_init lX11_9 iX8_init rfl rfl (by omega) (Nat.le_of_ble_eq_true rfl) ?_
  refine c_X8_init (by decide) (by decide) ?_
  refine ma_aast dX11_init_64 (by rfl) (by rfl) (by omega) (by omega) (by omega) ?_
  refine ma_iincK (2) dX11_init_65 rfl (by decide) rfl (by decide) ?_
  refine ma_goto 47 dX11_init_68 rfl ?_
  show ma_J _ _ _ _ _ 47 [some (vr 0), some (vi 2)] [] _ _ _
  refine ma_iload_n dX11_init_47 rfl ?_
  refine ma_iconst dX11_init_48 ?_
  refine ma_rcmp_ge 71 dX11_init_49 rfl (by decide) (by decide) (fun c49 => ?_) (fun c49 => absurd c49 (by decide))
  refine ma_aload_n dX11_init_71 rfl ?_
  refine ma_iconst dX11_init_72 ?_
  refine ma_newa (t := 3) (n := 2) dX11_init_73 (by decide) aw_3 (by decide) (by omega) ?_
  refine ma_putFr dX11_init_75 fX11_26 rfl ⟨_, _, rfl⟩ (by rfl) (Nat.le_of_ble_eq_true rfl) ?_
  refine ma_aload_n dX11_init_78 rfl ?_
  refine ma_new (N := 3) dX11_init_79 kX3 nX11_30 pX3 qX3 oX3 (by omega) ?_
  refine ma_dup dX11_init_82 rfl ?_
  refine ma_callI (d' := d + 2) (mc := 17) (ms := 280) [] dX11_init_83 wX3_init lX11_32 iX3_init rfl rfl (by omega) (Nat.le_of_ble_eq_true rfl) ?_
  refine c_X3_init ?_
  refine ma_putFr dX11_init_86 fX11_33 rfl ⟨_, _, rfl⟩ (by rfl) (Nat.le_of_ble_eq_true rfl) ?_
  refine ma_aload_n dX11_init_89 rfl ?_
  refine ma_new (N := 2) dX11_init_90 kX9 nX11_37 pX9 qX9 oX9 (by omega) ?_
  refine ma_dup dX11_init_93 rfl ?_
  refine ma_callIN (d' := d + 2) (mc := 1) (ms := 65) [] dX11_init_94 wX9_init lX11_39 iX9_init rfl rfl (by omega) (Nat.le_of_ble_eq_true rfl) ?_
  refine c_X9_init ?_
  refine ma_putFr dX11_init_97 fX11_40 rfl ⟨_, _, rfl⟩ (by rfl) (Nat.le_of_ble_eq_true rfl) ?_
  refine ma_aload_n dX11_init_100 rfl ?_
  refine ma_new (N := 4) dX11_init_101 kX5 nX11_44 pX5 qX5 oX5 (by omega) ?_
  refine ma_dup dX11_init_104 rfl ?_
  refine ma_callIN (d' := d + 2) (mc := 2) (ms := 240) [] dX11_init_105 wX5_init lX11_46 iX5_init rfl rfl (by omega) (Nat.le_of_ble_eq_true rfl) ?_
  refine c_X5_init ?_
  refine ma_putFr dX11_init_108 fX11_47 rfl ⟨_, _, rfl⟩ (by rfl) (Nat.le_of_ble_eq_true rfl) ?_
  refine ma_aload_n dX11_init_111 rfl ?_
  refine ma_new (N := 3) dX11_init_112 kX4 nX11_51 pX4 qX4 oX4 (by omega) ?_
  refine ma_dup dX11_init_115 rfl ?_
  refine ma_callIN (d' := d + 2) (mc := 2) (ms := 16) [] dX11_init_116 wX4_init lX11_53 iX4_init rfl rfl (by omega) (Nat.le_of_ble_eq_true rfl) ?_
  refine c_X4_init ?_
  refine ma_putFr dX11_init_119 fX11_54 rfl ⟨_, _, rfl⟩ (by rfl) (Nat.le_of_ble_eq_true rfl) ?_
  refine ma_aload_n dX11_init_122 rfl ?_
  refine ma_new (N := 4) dX11_init_123 kX2 nX11_58 pX2 qX2 oX2 (by omega) ?_
  refine ma_dup dX11_init_126 rfl ?_
  refine ma_callIN (d' := d + 2) (mc := 4) (ms := 56) [] dX11_init_127 wX2_init lX11_60 iX2_init rfl rfl (by omega) (Nat.le_of_ble_eq_true rfl) ?_
  refine c_X2_init ?_
  refine ma_putFr dX11_init_130 fX11_61 rfl ⟨_, _, rfl⟩ (by rfl) (Nat.le_of_ble_eq_true rfl) ?_
  refine ma_aload_n dX11_init_133 rfl ?_
  refine ma_new (N := 11) dX11_init_134 kX7 nX11_65 pX7 qX7 oX7 (by omega) ?_
  refine ma_dup dX11_init_137 rfl ?_
  refine ma_callIN (d' := d + 2) (mc := 9) (ms := 768) [] dX11_init_138 wX7_init lX11_67 iX7_init rfl rfl (by omega) (Nat.le_of_ble_eq_true rfl) ?_
  refine c_X7_init ?_
  refine ma_putFr dX11_init_141 fX11_68 rfl ⟨_, _, rfl⟩ (by rfl) (Nat.le_of_ble_eq_true rfl) ?_
  refine ma_aload_n dX11_init_144 rfl ?_
  refine ma_new (N := 5) dX11_init_145 kX1 nX11_72 pX1 qX1 oX1 (by omega) ?_
  refine ma_dup dX11_init_148 rfl ?_
  refine ma_aload_n dX11_init_149 rfl ?_
  refine ma_getf dX11_init_150 fX11_68 (by rfl) (by rfl) ?_
  refine ma_aload_n dX11_init_153 rfl ?_
  refine ma_getf dX11_init_154 fX11_61 (by rfl) (by rfl) ?_
  refine ma_callI (d' := d + 2) (mc := 4) (ms := 98) [_, _] dX11_init_157 wX1_init lX11_74 iX1_init rfl rfl (by omega) (Nat.le_of_ble_eq_true rfl) ?_
  refine c_X1_init ?_
  refine ma_putFr dX11_init_160 fX11_77 rfl ⟨_, _, rfl⟩ (by rfl) (Nat.le_of_ble_eq_true rfl) ?_
  refine ma_aload_n dX11_init_163 rfl ?_
  refine ma_new (N := 6) dX11_init_164 kX6 nX11_81 pX6 qX6 oX6 (by omega) ?_
  refine ma_dup dX11_init_167 rfl ?_
  refine ma_aload_n dX11_init_168 rfl ?_
  refine ma_getf dX11_init_169 fX11_77 (by rfl) (by rfl) ?_
  refine ma_aload_n dX11_init_172 rfl ?_
  refine ma_getf dX11_init_173 fX11_68 (by rfl) (by rfl) ?_
  refine ma_callI (d' := d + 2) (mc := 9) (ms := 1436) [_, _] dX11_init_176 wX6_init lX11_83 iX6_init rfl rfl (by omega) (Nat.le_of_ble_eq_true rfl) ?_
  refine c_X6_init ?_
  refine ma_putFr dX11_init_179 fX11_86 rfl ⟨_, _, rfl⟩ (by rfl) (Nat.le_of_ble_eq_true rfl) ?_
  refine ma_aload_n dX11_init_182 rfl ?_
  refine ma_new (N := 6) dX11_init_183 kX10 nX11_90 pX10 qX10 oX10 (by omega) ?_
  refine ma_dup dX11_init_186 rfl ?_
  refine ma_callIN (d' := d + 2) (mc := 3) (ms := 473) [] dX11_init_187 wX10_init lX11_92 iX10_init rfl rfl (by omega) (Nat.le_of_ble_eq_true rfl) ?_
  refine c_X10_init ?_
  refine ma_putFr dX11_init_190 fX11_93 rfl ⟨_, _, rfl⟩ (by rfl) (Nat.le_of_ble_eq_true rfl) ?_
  refine ma_vret dX11_init_193 rfl ?_
  exact K
theorem ih0_0 {h : ma_H} : ih0 h 0 = co 11 [vr 1, vr 3, vr 5, vr 7, vr 12, vr 13, vr 31, vr 33, vr 36, vr 39, vr 44, vr 54, vr 59, vr 69, vi 0] := rfl
theorem ih0_1 {h : ma_H} : ih0 h 1 = co 8 [vi 1, vr 2] := rfl
theorem ih0_2 {h : ma_H} : ih0 h 2 = ci 32 (fun _ => -1) := rfl
theorem ih0_3 {h : ma_H} : ih0 h 3 = co 8 [vi 1, vr 4] := rfl
theorem ih0_4 {h : ma_H} : ih0 h 4 = ci 32 (fun _ => -1) := rfl
theorem ih0_5 {h : ma_H} : ih0 h 5 = co 8 [vi 1, vr 6] := rfl
theorem ih0_6 {h : ma_H} : ih0 h 6 = ci 32 (fun _ => -1) := rfl
theorem ih0_7 {h : ma_H} : ih0 h 7 = cq 2 (uf (uf (fun _ => none) 0 (some 8)) 1 (some 10)) := rfl
theorem ih0_8 {h : ma_H} : ih0 h 8 = co 8 [vi 1, vr 9] := rfl
theorem ih0_9 {h : ma_H} : ih0 h 9 = ci 32 (fun _ => -1) := rfl
theorem ih0_10 {h : ma_H} : ih0 h 10 = co 8 [vi 1, vr 11] := rfl
theorem ih0_11 {h : ma_H} : ih0 h 11 = ci 32 (fun _ => -1) := rfl
theorem ih0_12 {h : ma_H} : ih0 h 12 = cz 2 (fun _ => 0) := rfl
theorem ih0_13 {h : ma_H} : ih0 h 13 = co 3 [vi 0, vi 0, vr 14] := rfl
theorem ih0_14 {h : ma_H} : ih0 h 14 = cq 8 (uf (uf (uf (uf (uf (uf (uf (uf (fun _ => none) 0 (some 15)) 1 (some 17)) 2 (some 19)) 3 (some 21)) 4 (some 23)) 5 (some 25)) 6 (some 27)) 7 (some 29)) := rfl
theorem ih0_15 {h : ma_H} : ih0 h 15 = co 8 [vi 1, vr 16] := rfl
theorem ih0_16 {h : ma_H} : ih0 h 16 = ci 32 (fun _ => -1) := rfl
theorem ih0_17 {h : ma_H} : ih0 h 17 = co 8 [vi 1, vr 18] := rfl
theorem ih0_18 {h : ma_H} : ih0 h 18 = ci 32 (fun _ => -1) := rfl
theorem ih0_19 {h : ma_H} : ih0 h 19 = co 8 [vi 1, vr 20] := rfl
theorem ih0_20 {h : ma_H} : ih0 h 20 = ci 32 (fun _ => -1) := rfl
theorem ih0_21 {h : ma_H} : ih0 h 21 = co 8 [vi 1, vr 22] := rfl
theorem ih0_22 {h : ma_H} : ih0 h 22 = ci 32 (fun _ => -1) := rfl
theorem ih0_23 {h : ma_H} : ih0 h 23 = co 8 [vi 1, vr 24] := rfl
theorem ih0_24 {h : ma_H} : ih0 h 24 = ci 32 (fun _ => -1) := rfl
theorem ih0_25 {h : ma_H} : ih0 h 25 = co 8 [vi 1, vr 26] := rfl
theorem ih0_26 {h : ma_H} : ih0 h 26 = ci 32 (fun _ => -1) := rfl
theorem ih0_27 {h : ma_H} : ih0 h 27 = co 8 [vi 1, vr 28] := rfl
theorem ih0_28 {h : ma_H} : ih0 h 28 = ci 32 (fun _ => -1) := rfl
theorem ih0_29 {h : ma_H} : ih0 h 29 = co 8 [vi 1, vr 30] := rfl
theorem ih0_30 {h : ma_H} : ih0 h 30 = ci 32 (fun _ => -1) := rfl
theorem ih0_31 {h : ma_H} : ih0 h 31 = co 9 [vi 0, vr 32] := rfl
theorem ih0_32 {h : ma_H} : ih0 h 32 = cl 65 (fun _ => 0) := rfl
theorem ih0_33 {h : ma_H} : ih0 h 33 = co 5 [vi 0, vr 34, vi 0, vr 35] := rfl
theorem ih0_34 {h : ma_H} : ih0 h 34 = ci 80 (fun _ => 0) := rfl
theorem ih0_35 {h : ma_H} : ih0 h 35 = ci 160 (fun _ => 0) := rfl
theorem ih0_36 {h : ma_H} : ih0 h 36 = co 4 [vi 0, vr 37, vr 38] := rfl
theorem ih0_37 {h : ma_H} : ih0 h 37 = ci 8 (fun _ => 0) := rfl
theorem ih0_38 {h : ma_H} : ih0 h 38 = ci 8 (fun _ => 0) := rfl
theorem ih0_39 {h : ma_H} : ih0 h 39 = co 2 [vr 40, vr 41, vr 42, vr 43] := rfl
theorem ih0_40 {h : ma_H} : ih0 h 40 = ci 32 (fun _ => 0) := rfl
theorem ih0_41 {h : ma_H} : ih0 h 41 = ci 8 (fun _ => 0) := rfl
theorem ih0_42 {h : ma_H} : ih0 h 42 = ci 8 (fun _ => 0) := rfl
theorem ih0_43 {h : ma_H} : ih0 h 43 = ci 8 (fun _ => 0) := rfl
theorem ih0_44 {h : ma_H} : ih0 h 44 = co 7 [vr 45, vr 46, vr 47, vr 48, vr 49, vr 50, vr 51, vr 52, vi 0, vi 0, vr 53] := rfl
theorem ih0_45 {h : ma_H} : ih0 h 45 = ci 128 (fun _ => 0) := rfl
theorem ih0_46 {h : ma_H} : ih0 h 46 = ci 128 (fun _ => 0) := rfl
theorem ih0_47 {h : ma_H} : ih0 h 47 = ci 128 (fun _ => 0) := rfl
theorem ih0_48 {h : ma_H} : ih0 h 48 = cz 128 (fun _ => 0) := rfl
theorem ih0_49 {h : ma_H} : ih0 h 49 = ci 32 (fun _ => 0) := rfl
theorem ih0_50 {h : ma_H} : ih0 h 50 = ci 32 (fun _ => 0) := rfl
theorem ih0_51 {h : ma_H} : ih0 h 51 = ci 32 (fun _ => 0) := rfl
theorem ih0_52 {h : ma_H} : ih0 h 52 = ci 32 (fun _ => 0) := rfl
theorem ih0_53 {h : ma_H} : ih0 h 53 = ci 128 (fun _ => 0) := rfl
theorem ih0_54 {h : ma_H} : ih0 h 54 = co 1 [vr 44, vr 39, vr 55, vr 57, vr 58] := rfl
theorem ih0_55 {h : ma_H} : ih0 h 55 = co 8 [vi 1, vr 56] := rfl
theorem ih0_56 {h : ma_H} : ih0 h 56 = ci 32 (fun _ => -1) := rfl
theorem ih0_57 {h : ma_H} : ih0 h 57 = ci 32 (fun _ => 0) := rfl
theorem ih0_58 {h : ma_H} : ih0 h 58 = ci 32 (fun _ => 0) := rfl
theorem ih0_59 {h : ma_H} : ih0 h 59 = co 6 [vr 54, vr 44, vr 60, vr 62, vr 64, vr 68] := rfl
theorem ih0_60 {h : ma_H} : ih0 h 60 = co 8 [vi 1, vr 61] := rfl
theorem ih0_61 {h : ma_H} : ih0 h 61 = ci 32 (fun _ => -1) := rfl
theorem ih0_62 {h : ma_H} : ih0 h 62 = co 8 [vi 1, vr 63] := rfl
theorem ih0_63 {h : ma_H} : ih0 h 63 = ci 32 (fun _ => -1) := rfl
theorem ih0_64 {h : ma_H} : ih0 h 64 = co 0 [vi 0, vr 65, vr 66, vr 67] := rfl
theorem ih0_65 {h : ma_H} : ih0 h 65 = ci 40 (fun _ => 0) := rfl
theorem ih0_66 {h : ma_H} : ih0 h 66 = ci 40 (fun _ => 0) := rfl
theorem ih0_67 {h : ma_H} : ih0 h 67 = ci 1280 (fun _ => 0) := rfl
theorem ih0_68 {h : ma_H} : ih0 h 68 = ci 4 (fun _ => 0) := rfl
theorem ih0_69 {h : ma_H} : ih0 h 69 = co 10 [vr 70, vr 71, vi 0, vi 0, vi 0, vr 72] := rfl
theorem ih0_70 {h : ma_H} : ih0 h 70 = ci 32 (fun _ => 0) := rfl
theorem ih0_71 {h : ma_H} : ih0 h 71 = cl 432 (fun _ => 0) := rfl
theorem ih0_72 {h : ma_H} : ih0 h 72 = cl 9 (fun _ => 0) := rfl
