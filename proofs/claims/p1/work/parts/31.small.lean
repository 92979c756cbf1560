theorem c_X9_clear {h : ma_H} {a nx d : Nat} {s : Int} {r : ma_V} {Q : Option ma_V → ma_H → Nat → Prop} (ha : h a = co 9 [vi s, r]) (K : Q none (ma_up h a (co 9 [vi 0, r])) nx) : ma_Ct mX9_clear d 0 0 [vr a] h nx Q := by
  refine ma_Ct.of (by decide +kernel) (Nat.le_of_ble_eq_true rfl) ?_
  refine ma_aload_n dX9_clear_0 rfl ?_
  refine ma_iconst dX9_clear_1 ?_
  refine ma_puti dX9_clear_2 fX9_13 (by first | assumption | exact ma_up_s _ _ _ | (rw [ma_up_n (by omega)]; first | assumption | exact ma_up_s _ _ _ | (rw [ma_up_n (by omega)]; first | assumption | exact ma_up_s _ _ _))) (Nat.le_of_ble_eq_true rfl) ?_
  refine ma_vret dX9_clear_5 rfl ?_
  exact K
theorem c_X9_add {h : ma_H} {a g nx d : Nat} {s v : Int} {N : Int → Int} {Q : Option ma_V → ma_H → Nat → Prop} (ha : h a = co 9 [vi s, vr g]) (hg : h g = cl 65 N) (hag : a ≠ g) (hs : 0 ≤ s ∧ s < 65) (K : Q none (ma_up (ma_up h g (cl 65 (uf N s v))) a (co 9 [vi (s + 1), vr g])) nx) : ma_Ct mX9_add d 0 0 [vr a, vl v] h nx Q := by
  refine ma_Ct.of (by decide +kernel) (Nat.le_of_ble_eq_true rfl) ?_
  refine ma_aload_n dX9_add_0 rfl ?_
  refine ma_getf dX9_add_1 fX9_13 (by first | assumption | exact ma_up_s _ _ _ | (rw [ma_up_n (by omega)]; first | assumption | exact ma_up_s _ _ _ | (rw [ma_up_n (by omega)]; first | assumption | exact ma_up_s _ _ _))) (by rfl) ?_
  refine ma_bipush dX9_add_4 ?_
  refine ma_rcmp_ge 29 dX9_add_6 rfl (by constructor <;> omega) (by constructor <;> omega) (fun c6 => ?_) (fun c6 => ?_)
  · -- 29
    refine ma_vret dX9_add_29 rfl ?_
    first | exact K | omega
  · -- 9
    refine ma_aload_n dX9_add_9 rfl ?_
    refine ma_getf dX9_add_10 fX9_9 (by first | assumption | exact ma_up_s _ _ _ | (rw [ma_up_n (by omega)]; first | assumption | exact ma_up_s _ _ _ | (rw [ma_up_n (by omega)]; first | assumption | exact ma_up_s _ _ _))) (by rfl) ?_
    refine ma_aload_n dX9_add_13 rfl ?_
    refine ma_getf dX9_add_14 fX9_13 (by first | assumption | exact ma_up_s _ _ _ | (rw [ma_up_n (by omega)]; first | assumption | exact ma_up_s _ _ _ | (rw [ma_up_n (by omega)]; first | assumption | exact ma_up_s _ _ _))) (by rfl) ?_
    refine ma_lload_n dX9_add_17 rfl ?_
    refine ma_last dX9_add_18 (by first | assumption | exact ma_up_s _ _ _ | (rw [ma_up_n (by omega)]; first | assumption | exact ma_up_s _ _ _ | (rw [ma_up_n (by omega)]; first | assumption | exact ma_up_s _ _ _))) (by omega) (by omega) (by omega) ?_
    refine ma_aload_n dX9_add_19 rfl ?_
    refine ma_dup dX9_add_20 rfl ?_
    refine ma_getf dX9_add_21 fX9_13 (by first | assumption | exact ma_up_s _ _ _ | (rw [ma_up_n (by omega)]; first | assumption | exact ma_up_s _ _ _ | (rw [ma_up_n (by omega)]; first | assumption | exact ma_up_s _ _ _))) (by rfl) ?_
    refine ma_iconst dX9_add_24 ?_
    refine ma_iadd dX9_add_25 ?_
    refine ma_puti dX9_add_26 fX9_13 (by first | assumption | exact ma_up_s _ _ _ | (rw [ma_up_n (by omega)]; first | assumption | exact ma_up_s _ _ _ | (rw [ma_up_n (by omega)]; first | assumption | exact ma_up_s _ _ _))) (Nat.le_of_ble_eq_true rfl) ?_
    refine ma_vret dX9_add_29 rfl ?_
    first | exact K | omega
theorem c_X9_addFlag {h : ma_H} {a g nx d : Nat} {s x : Int} {N : Int → Int} {Q : Option ma_V → ma_H → Nat → Prop} (ha : h a = co 9 [vi s, vr g]) (hg : h g = cl 65 N) (hag : a ≠ g) (hs : 0 ≤ s ∧ s < 65) (hx : x = 0 ∨ x = 1) (K : Q none (ma_up (ma_up h g (cl 65 (uf N s x))) a (co 9 [vi (s + 1), vr g])) nx) : ma_Ct mX9_addFlag (d + 1) 0 0 [vr a, vi x] h nx Q := by
  refine ma_Ct.of (by decide +kernel) (Nat.le_of_ble_eq_true rfl) ?_
  refine ma_aload_n dX9_addFlag_0 rfl ?_
  refine ma_iload_n dX9_addFlag_1 rfl ?_
  refine ma_rif_eq 9 dX9_addFlag_2 rfl (by constructor <;> omega) (fun c2 => ?_) (fun c2 => ?_)
  · -- 9
    refine ma_lconst (z := 0) dX9_addFlag_9 rfl ?_
    refine ma_cV [_] dX9_addFlag_10 wX9_add lX9_17 iX9_add sX9_add rfl (by first | assumption | exact ma_up_s _ _ _ | (rw [ma_up_n (by omega)]; first | assumption | exact ma_up_s _ _ _ | (rw [ma_up_n (by omega)]; first | assumption | exact ma_up_s _ _ _))) (Nat.le_of_ble_eq_true rfl) ?_
    refine c_X9_add ha hg hag hs ?_
    refine ma_vret dX9_addFlag_13 rfl ?_
    first | (rw [show x = 1 by omega] at K; exact K) | (rw [show x = 0 by omega] at K; exact K)
  · -- 5
    refine ma_lconst (z := 1) dX9_addFlag_5 rfl ?_
    refine ma_goto 10 dX9_addFlag_6 rfl ?_
    refine ma_cV [_] dX9_addFlag_10 wX9_add lX9_17 iX9_add sX9_add rfl (by first | assumption | exact ma_up_s _ _ _ | (rw [ma_up_n (by omega)]; first | assumption | exact ma_up_s _ _ _ | (rw [ma_up_n (by omega)]; first | assumption | exact ma_up_s _ _ _))) (Nat.le_of_ble_eq_true rfl) ?_
    refine c_X9_add ha hg hag hs ?_
    refine ma_vret dX9_addFlag_13 rfl ?_
    first | (rw [show x = 1 by omega] at K; exact K) | (rw [show x = 0 by omega] at K; exact K)
theorem c_X3_push {h : ma_H} {a w b e y z d : Nat} {s n u t : Int} {G F : Int → Int} {O : Int → Option Nat} {Q : Option ma_V → ma_H → Nat → Prop} (ha : h a = co 3 [vi s, vi n, vr w]) (hw : h w = cq 8 O) (hn : 0 ≤ n ∧ n < 8) (hs : 0 ≤ s ∧ s ≤ 8) (hO : O n = some y) (hy : h y = co 8 [vi t, vr z]) (hz : h z = ci 32 G) (hb : h b = co 8 [vi u, vr e]) (he : h e = ci 32 F) (n1 : y ≠ z) (n2 : y ≠ b) (n3 : y ≠ e) (n4 : a ≠ y) (n5 : a ≠ z)
    (K : Q none (ma_up (ma_up (ma_up h y (co 8 [vi u, vr z])) z (ci 32 F)) a (co 3 [vi (if 8 < s + 1 then 8 else s + 1), vi ((n + 1) % 8), vr w])) 1000000) : ma_Ct mX3_push (d + 2) 0 0 [vr a, vr b] h 1000000 Q := by
  refine ma_Ct.of (by decide +kernel) (Nat.le_of_ble_eq_true rfl) ?_
  refine ma_aload_n dX3_push_0 rfl ?_
  refine ma_getf dX3_push_1 fX3_13 (by first | assumption | exact ma_up_s _ _ _ | (rw [ma_up_n (by omega)]; first | assumption | exact ma_up_s _ _ _ | (rw [ma_up_n (by omega)]; first | assumption | exact ma_up_s _ _ _))) (by rfl) ?_
  refine ma_aload_n dX3_push_4 rfl ?_
  refine ma_getf dX3_push_5 fX3_18 (by first | assumption | exact ma_up_s _ _ _ | (rw [ma_up_n (by omega)]; first | assumption | exact ma_up_s _ _ _ | (rw [ma_up_n (by omega)]; first | assumption | exact ma_up_s _ _ _))) (by rfl) ?_
  refine ma_aald dX3_push_8 (by first | assumption | exact ma_up_s _ _ _ | (rw [ma_up_n (by omega)]; first | assumption | exact ma_up_s _ _ _ | (rw [ma_up_n (by omega)]; first | assumption | exact ma_up_s _ _ _))) (by omega) (by omega) (by omega) ?_
  rw [hO]
  refine ma_aload_n dX3_push_9 rfl ?_
  refine ma_cV [_] dX3_push_10 wX8_copy lX3_22 iX8_copy sX8_copy rfl (by first | assumption | exact ma_up_s _ _ _ | (rw [ma_up_n (by omega)]; first | assumption | exact ma_up_s _ _ _ | (rw [ma_up_n (by omega)]; first | assumption | exact ma_up_s _ _ _))) (Nat.le_of_ble_eq_true rfl) ?_
  refine c_X8_copy hy hz hb he n1 n2 n3 ?_
  refine ma_aload_n dX3_push_13 rfl ?_
  refine ma_aload_n dX3_push_14 rfl ?_
  refine ma_getf dX3_push_15 fX3_18 (by first | assumption | exact ma_up_s _ _ _ | (rw [ma_up_n (by omega)]; first | assumption | exact ma_up_s _ _ _ | (rw [ma_up_n (by omega)]; first | assumption | exact ma_up_s _ _ _))) (by rfl) ?_
  refine ma_iconst dX3_push_18 ?_
  refine ma_iadd dX3_push_19 ?_
  refine ma_bipush dX3_push_20 ?_
  refine ma_kmod dX3_push_22 (by constructor <;> omega) (by constructor <;> omega) ?_
  refine ma_puti dX3_push_23 fX3_18 (by first | assumption | exact ma_up_s _ _ _ | (rw [ma_up_n (by omega)]; first | assumption | exact ma_up_s _ _ _ | (rw [ma_up_n (by omega)]; first | assumption | exact ma_up_s _ _ _))) (Nat.le_of_ble_eq_true rfl) ?_
  refine ma_aload_n dX3_push_26 rfl ?_
  refine ma_aload_n dX3_push_27 rfl ?_
  refine ma_getf dX3_push_28 fX3_26 (by first | assumption | exact ma_up_s _ _ _ | (rw [ma_up_n (by omega)]; first | assumption | exact ma_up_s _ _ _ | (rw [ma_up_n (by omega)]; first | assumption | exact ma_up_s _ _ _))) (by rfl) ?_
  refine ma_iconst dX3_push_31 ?_
  refine ma_iadd dX3_push_32 ?_
  refine ma_bipush dX3_push_33 ?_
  refine ma_cS [_, _] dX3_push_35 wJ9_min_7cf53 lX3_29 tJ9_min_7cf53 (Nat.le_of_ble_eq_true rfl) ?_
  refine c_J9_min_7cf53 (by constructor <;> omega) (by constructor <;> omega) ?_
  refine ma_puti dX3_push_38 fX3_26 (by first | assumption | exact ma_up_s _ _ _ | (rw [ma_up_n (by omega)]; first | assumption | exact ma_up_s _ _ _ | (rw [ma_up_n (by omega)]; first | assumption | exact ma_up_s _ _ _))) (Nat.le_of_ble_eq_true rfl) ?_
  refine ma_vret dX3_push_41 rfl ?_
  rw [ma_up_up]; exact K
theorem c_X3_pop {h : ma_H} {a w b e y z d : Nat} {s n u t : Int} {G F : Int → Int} {O : Int → Option Nat} {Q : Option ma_V → ma_H → Nat → Prop} (ha : h a = co 3 [vi s, vi n, vr w]) (hw : h w = cq 8 O) (hn : 0 ≤ n ∧ n < 8) (hs : 0 ≤ s ∧ s ≤ 8) (hO : O ((n + 7) % 8) = some y) (hy : h y = co 8 [vi t, vr z]) (hz : h z = ci 32 G) (hb : h b = co 8 [vi u, vr e]) (he : h e = ci 32 F) (n1 : b ≠ e) (n2 : b ≠ y) (n3 : b ≠ z) (n4 : a ≠ b) (n5 : a ≠ e) (n6 : a ≠ y) (n7 : a ≠ z) (n8 : a ≠ w)
    (K0 : s = 0 → Q (some (vi (-1))) h 1000000) (K : 0 < s → Q (some (vi (s - 1))) (ma_up (ma_up (ma_up h a (co 3 [vi (s - 1), vi ((n + 7) % 8), vr w])) b (co 8 [vi t, vr e])) e (ci 32 G)) 1000000) : ma_Ct mX3_pop (d + 2) 0 0 [vr a, vr b] h 1000000 Q := by
  refine ma_Ct.of (by decide +kernel) (Nat.le_of_ble_eq_true rfl) ?_
  refine ma_aload_n dX3_pop_0 rfl ?_
  refine ma_getf dX3_pop_1 fX3_26 (by first | assumption | exact ma_up_s _ _ _ | (rw [ma_up_n (by omega)]; first | assumption | exact ma_up_s _ _ _ | (rw [ma_up_n (by omega)]; first | assumption | exact ma_up_s _ _ _))) (by rfl) ?_
  refine ma_iconst dX3_pop_4 ?_
  refine ma_rcmp_ge 10 dX3_pop_5 rfl (by constructor <;> omega) (by constructor <;> omega) (fun c5 => ?_) (fun c5 => ?_)
  · -- 10
    refine ma_aload_n dX3_pop_10 rfl ?_
    refine ma_aload_n dX3_pop_11 rfl ?_
    refine ma_getf dX3_pop_12 fX3_18 (by first | assumption | exact ma_up_s _ _ _ | (rw [ma_up_n (by omega)]; first | assumption | exact ma_up_s _ _ _ | (rw [ma_up_n (by omega)]; first | assumption | exact ma_up_s _ _ _))) (by rfl) ?_
    refine ma_bipush dX3_pop_15 ?_
    refine ma_iadd dX3_pop_17 ?_
    refine ma_iconst dX3_pop_18 ?_
    refine ma_isub dX3_pop_19 ?_
    refine ma_bipush dX3_pop_20 ?_
    refine ma_kmod dX3_pop_22 (by constructor <;> omega) (by constructor <;> omega) ?_
    refine ma_puti dX3_pop_23 fX3_18 (by first | assumption | exact ma_up_s _ _ _ | (rw [ma_up_n (by omega)]; first | assumption | exact ma_up_s _ _ _ | (rw [ma_up_n (by omega)]; first | assumption | exact ma_up_s _ _ _))) (Nat.le_of_ble_eq_true rfl) ?_
    refine ma_aload_n dX3_pop_26 rfl ?_
    refine ma_dup dX3_pop_27 rfl ?_
    refine ma_getf dX3_pop_28 fX3_26 (by first | assumption | exact ma_up_s _ _ _ | (rw [ma_up_n (by omega)]; first | assumption | exact ma_up_s _ _ _ | (rw [ma_up_n (by omega)]; first | assumption | exact ma_up_s _ _ _))) (by rfl) ?_
    refine ma_iconst dX3_pop_31 ?_
    refine ma_isub dX3_pop_32 ?_
    refine ma_puti dX3_pop_33 fX3_26 (by first | assumption | exact ma_up_s _ _ _ | (rw [ma_up_n (by omega)]; first | assumption | exact ma_up_s _ _ _ | (rw [ma_up_n (by omega)]; first | assumption | exact ma_up_s _ _ _))) (Nat.le_of_ble_eq_true rfl) ?_
    refine ma_aload_n dX3_pop_36 rfl ?_
    refine ma_aload_n dX3_pop_37 rfl ?_
    refine ma_getf dX3_pop_38 fX3_13 (by first | assumption | exact ma_up_s _ _ _ | (rw [ma_up_n (by omega)]; first | assumption | exact ma_up_s _ _ _ | (rw [ma_up_n (by omega)]; first | assumption | exact ma_up_s _ _ _))) (by rfl) ?_
    refine ma_aload_n dX3_pop_41 rfl ?_
    refine ma_getf dX3_pop_42 fX3_18 (by first | assumption | exact ma_up_s _ _ _ | (rw [ma_up_n (by omega)]; first | assumption | exact ma_up_s _ _ _ | (rw [ma_up_n (by omega)]; first | assumption | exact ma_up_s _ _ _))) (by rfl) ?_
    refine ma_aald dX3_pop_45 (by first | assumption | exact ma_up_s _ _ _ | (rw [ma_up_n (by omega)]; first | assumption | exact ma_up_s _ _ _ | (rw [ma_up_n (by omega)]; first | assumption | exact ma_up_s _ _ _))) (by omega) (by omega) (by omega) ?_
    rw [show (n + 8 - 1) % 8 = (n + 7) % 8 by omega, hO]
    refine ma_cV [_] dX3_pop_46 wX8_copy lX3_22 iX8_copy sX8_copy rfl (by first | assumption | exact ma_up_s _ _ _ | (rw [ma_up_n (by omega)]; first | assumption | exact ma_up_s _ _ _ | (rw [ma_up_n (by omega)]; first | assumption | exact ma_up_s _ _ _))) (Nat.le_of_ble_eq_true rfl) ?_
    rw [ma_up_up]
    refine c_X8_copy ((ma_up_n (by omega)).trans hb) ((ma_up_n (by omega)).trans he) ((ma_up_n (by omega)).trans hy) ((ma_up_n (by omega)).trans hz) n1 n2 n3 ?_
    refine ma_aload_n dX3_pop_49 rfl ?_
    refine ma_getf dX3_pop_50 fX3_26 (by first | assumption | exact ma_up_s _ _ _ | (rw [ma_up_n (by omega)]; first | assumption | exact ma_up_s _ _ _ | (rw [ma_up_n (by omega)]; first | assumption | exact ma_up_s _ _ _))) (by rfl) ?_
    refine ma_iret dX3_pop_53 rfl ?_
    first | exact K0 (by omega) | exact K (by omega)
  · -- 8
    refine ma_iconst dX3_pop_8 ?_
    refine ma_iret dX3_pop_9 rfl ?_
    first | exact K0 (by omega) | exact K (by omega)
