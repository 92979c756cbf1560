theorem c_X11_sign {h : ma_H} {nx d : Nat} {n v q0 : Int} {r s : ma_V} {T : Int → Int} {Q : Option ma_V → ma_H → Nat → Prop} (hx : h 0 = co 11 (xo q0)) (ha : h 33 = co 5 [vi n, vr 34, r, s]) (hg : h 34 = ci 80 T) (hn : 0 ≤ n ∧ n ≤ 80) (hv : rg v) (K0 : 80 < n + 4 → Q (some (vi (-1))) h nx) (K : n + 4 ≤ 80 → Q (some (vi (n + 4))) (ma_up (ma_up h 34 (ci 80 (tx4 T n v))) 33 (co 5 [vi (n + 4), vr 34, r, s])) nx) : ma_Ct mX11_sign (d + 1) 0 0 [vr 0, vi v] h nx Q := by
  refine ma_Ct.of (by decide +kernel) (Nat.le_of_ble_eq_true rfl) ?_
  refine ma_aload_n dX11_sign_0 rfl ?_
  refine ma_getf dX11_sign_1 fX11_47 (by first | assumption | exact (ma_up_n (by decide)).trans (by assumption) | exact (ma_up_n (by decide)).trans ((ma_up_n (by decide)).trans (by assumption))) (by rfl) ?_
  refine ma_iload_n dX11_sign_4 rfl ?_
  refine ma_cV [_] dX11_sign_5 wX5_append lX11_97 iX5_append sX5_append rfl (by first | assumption | exact (ma_up_n (by decide)).trans (by assumption) | exact (ma_up_n (by decide)).trans ((ma_up_n (by decide)).trans (by assumption))) (Nat.le_of_ble_eq_true rfl) ?_
  refine c_X5_append ha hg hn hv (fun z => ?_) (fun z => ?_)
  · -- i
    exact ma_iret dX11_sign_8 rfl (K0 z)
  · -- i
    exact ma_iret dX11_sign_8 rfl (K z)
theorem c_X11_end {h : ma_H} {nx d : Nat} {n x q0 : Int} {r s w : ma_V} {Q : Option ma_V → ma_H → Nat → Prop} (hx : h 0 = co 11 (xo q0)) (ha : h 33 = co 5 [vi n, w, r, s]) (hn : 0 ≤ n ∧ n ≤ 80) (hv : rg x) (K0 : ¬ (0 ≤ x ∧ x ≤ n) → Q (some (vi 0)) h nx) (K1 : 0 ≤ x ∧ x ≤ n → Q (some (vi 1)) (ma_up h 33 (co 5 [vi x, w, r, s])) nx) : ma_Ct mX11_end (d + 1) 0 0 [vr 0, vi x] h nx Q := by
  refine ma_Ct.of (by decide +kernel) (Nat.le_of_ble_eq_true rfl) ?_
  refine ma_aload_n dX11_end_0 rfl ?_
  refine ma_getf dX11_end_1 fX11_47 (by first | assumption | exact (ma_up_n (by decide)).trans (by assumption) | exact (ma_up_n (by decide)).trans ((ma_up_n (by decide)).trans (by assumption))) (by rfl) ?_
  refine ma_iload_n dX11_end_4 rfl ?_
  refine ma_cV [_] dX11_end_5 wX5_cut lX11_101 iX5_cut sX5_cut rfl (by first | assumption | exact (ma_up_n (by decide)).trans (by assumption) | exact (ma_up_n (by decide)).trans ((ma_up_n (by decide)).trans (by assumption))) (Nat.le_of_ble_eq_true rfl) ?_
  refine c_X5_cut ha hn hv (fun z => ?_) (fun z => ?_)
  · -- i
    exact ma_zret dX11_end_8 rfl (Or.inl rfl) (K0 z)
  · -- i
    exact ma_zret dX11_end_8 rfl (Or.inr rfl) (K1 z)
theorem c_X11_heard {h : ma_H} {nx d : Nat} {n w v q0 : Int} {A C : Int → Int} {Q : Option ma_V → ma_H → Nat → Prop} (hx : h 0 = co 11 (xo q0)) (ha : h 36 = co 4 [vi n, vr 37, vr 38]) (h1 : h 37 = ci 8 A) (h2 : h 38 = ci 8 C) (hn : 0 ≤ n ∧ n ≤ 8) (hw : rg w) (hv : rg v) (K0 : ¬ (n < 8 ∧ 0 ≤ v ∧ v ≤ hg w) → Q (some (vi (-1))) h nx) (K : n < 8 ∧ 0 ≤ v ∧ v ≤ hg w → Q (some (vi (n + 1))) (ma_up (ma_up (ma_up h 37 (ci 8 (uf A n w))) 38 (ci 8 (uf C n v))) 36 (co 4 [vi (n + 1), vr 37, vr 38])) nx) : ma_Ct mX11_heard (d + 2) 0 0 [vr 0, vi w, vi v] h nx Q := by
  refine ma_Ct.of (by decide +kernel) (Nat.le_of_ble_eq_true rfl) ?_
  refine ma_aload_n dX11_heard_0 rfl ?_
  refine ma_getf dX11_heard_1 fX11_54 (by first | assumption | exact (ma_up_n (by decide)).trans (by assumption) | exact (ma_up_n (by decide)).trans ((ma_up_n (by decide)).trans (by assumption))) (by rfl) ?_
  refine ma_iload_n dX11_heard_4 rfl ?_
  refine ma_iload_n dX11_heard_5 rfl ?_
  refine ma_cV [_, _] dX11_heard_6 wX4_add lX11_311 iX4_add sX4_add rfl (by first | assumption | exact (ma_up_n (by decide)).trans (by assumption) | exact (ma_up_n (by decide)).trans ((ma_up_n (by decide)).trans (by assumption))) (Nat.le_of_ble_eq_true rfl) ?_
  refine c_X4_add ha h1 h2 hn hw hv (fun z => ?_) (fun z => ?_)
  · -- i
    exact ma_iret dX11_heard_9 rfl (K0 z)
  · -- i
    exact ma_iret dX11_heard_9 rfl (K z)
theorem c_X11_forget {h : ma_H} {nx d : Nat} {n q0 : Int} {r s : ma_V} {Q : Option ma_V → ma_H → Nat → Prop} (hx : h 0 = co 11 (xo q0)) (ha : h 36 = co 4 [vi n, r, s]) (K : Q (some (vi n)) (ma_up h 36 (co 4 [vi 0, r, s])) nx) : ma_Ct mX11_forget d 0 0 [vr 0] h nx Q := by
  refine ma_Ct.of (by decide +kernel) (Nat.le_of_ble_eq_true rfl) ?_
  refine ma_aload_n dX11_forget_0 rfl ?_
  refine ma_getf dX11_forget_1 fX11_54 (by first | assumption | exact (ma_up_n (by decide)).trans (by assumption) | exact (ma_up_n (by decide)).trans ((ma_up_n (by decide)).trans (by assumption))) (by rfl) ?_
  refine ma_getf dX11_forget_4 fX11_313 (by first | assumption | exact (ma_up_n (by decide)).trans (by assumption) | exact (ma_up_n (by decide)).trans ((ma_up_n (by decide)).trans (by assumption))) (by rfl) ?_
  refine ma_istore_nN dX11_forget_7 (by decide) rfl ?_
  refine ma_aload_n dX11_forget_8 rfl ?_
  refine ma_getf dX11_forget_9 fX11_54 (by first | assumption | exact (ma_up_n (by decide)).trans (by assumption) | exact (ma_up_n (by decide)).trans ((ma_up_n (by decide)).trans (by assumption))) (by rfl) ?_
  refine ma_iconst dX11_forget_12 ?_
  refine ma_puti dX11_forget_13 fX11_313 (by first | assumption | exact (ma_up_n (by decide)).trans (by assumption) | exact (ma_up_n (by decide)).trans ((ma_up_n (by decide)).trans (by assumption))) (Nat.le_of_ble_eq_true rfl) ?_
  refine ma_iload_n dX11_forget_16 rfl ?_
  exact ma_iret dX11_forget_17 rfl K
theorem c_X11_alike {h : ma_H} {d : Nat} {t u q0 : Int} {G F0 : Int → Int} {Q : Option ma_V → ma_H → Nat → Prop} (hx : h 0 = co 11 (xo q0)) (h1 : h 1 = co 8 [vi t, vr 2]) (h2 : h 2 = ci 32 G) (h5 : h 5 = co 8 [vi u, vr 6]) (h6 : h 6 = ci 32 F0) (hn : h 39 = co 2 [vr 40, vr 41, vr 42, vr 43]) (hS : SN h) (hG : VG t G) (hC : CN t G) (K : ∀ h' L ties, LI t G L (24 * t) ties → Q (some (vi ties)) h' 1000000) : ma_Ct mX11_alike (d + 3) 0 0 [vr 0] h 1000000 Q := by
  refine ma_Ct.of (by decide +kernel) (Nat.le_of_ble_eq_true rfl) ?_
  refine ma_aload_n dX11_alike_0 rfl ?_
  refine ma_getf dX11_alike_1 fX11_19 (by first | assumption | exact (ma_up_n (by decide)).trans (by assumption) | exact (ma_up_n (by decide)).trans ((ma_up_n (by decide)).trans (by assumption))) (by rfl) ?_
  refine ma_aload_n dX11_alike_4 rfl ?_
  refine ma_getf dX11_alike_5 fX11_10 (by first | assumption | exact (ma_up_n (by decide)).trans (by assumption) | exact (ma_up_n (by decide)).trans ((ma_up_n (by decide)).trans (by assumption))) (by rfl) ?_
  refine ma_cV [_] dX11_alike_8 wX8_copy lX11_120 iX8_copy sX8_copy rfl (by first | assumption | exact (ma_up_n (by decide)).trans (by assumption) | exact (ma_up_n (by decide)).trans ((ma_up_n (by decide)).trans (by assumption))) (Nat.le_of_ble_eq_true rfl) ?_
  refine c_X8_copy h5 h6 h1 h2 (by decide) (by decide) (by decide) ?_
  refine ma_aload_n dX11_alike_11 rfl ?_
  refine ma_getf dX11_alike_12 fX11_61 (by first | assumption | exact (ma_up_n (by decide)).trans (by assumption) | exact (ma_up_n (by decide)).trans ((ma_up_n (by decide)).trans (by assumption))) (by rfl) ?_
  refine ma_aload_n dX11_alike_15 rfl ?_
  refine ma_getf dX11_alike_16 fX11_19 (by first | assumption | exact (ma_up_n (by decide)).trans (by assumption) | exact (ma_up_n (by decide)).trans ((ma_up_n (by decide)).trans (by assumption))) (by rfl) ?_
  refine ma_cV [_] dX11_alike_19 wX2_settle lX11_117 iX2_settle sX2_settle rfl (by first | assumption | exact (ma_up_n (by decide)).trans (by assumption) | exact (ma_up_n (by decide)).trans ((ma_up_n (by decide)).trans (by assumption))) (Nat.le_of_ble_eq_true rfl) ?_
  obtain ⟨L, A, B', C', n1, n2, n3, n4⟩ := hS
  rw [nh_of (h := (ma_up (ma_up h 5 (co 8 [vi t, vr 6])) 6 (ci 32 G))) ((ma_up_n (by decide)).trans ((ma_up_n (by decide)).trans n1)) ((ma_up_n (by decide)).trans ((ma_up_n (by decide)).trans n2)) ((ma_up_n (by decide)).trans ((ma_up_n (by decide)).trans n3)) ((ma_up_n (by decide)).trans ((ma_up_n (by decide)).trans n4))]
  refine c_X2_settle (fun L A B C => (nh_n (by omega)).trans ((ma_up_n (by decide)).trans ((ma_up_n (by decide)).trans hn))) (fun L A B C => (nh_n (by omega)).trans ((ma_up_n (by decide)).trans (ma_up_s _ _ _))) (fun L A B C => (nh_n (by omega)).trans (ma_up_s _ _ _)) hG hC (fun L A B' C' ties hLI => ?_)
  exact ma_iret dX11_alike_22 rfl (K _ L ties hLI)
