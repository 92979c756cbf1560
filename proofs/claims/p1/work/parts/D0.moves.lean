theorem nin {y : Nat} (h : 15 ≤ y ∧ y ≤ 30) : y ∉ (1 :: 2 :: 3 :: 4 :: scl) := by
  simp only [List.mem_cons, List.not_mem_nil, or_false, not_or]
  omega
set_option maxHeartbeats 2000000 in
theorem c_X11_moveNow {h : ma_H} {y z d : Nat} {t u0 q0 s n tt : Int} {G F0 GG : Int → Int} {O : Int → Option Nat} {Q : Option ma_V → ma_H → Nat → Prop} {kd x u v : Int} (hx : h 0 = co 11 (xo q0)) (hS : SC h) (h1 : h 1 = co 8 [vi t, vr 2]) (h2 : h 2 = ci 32 G) (h3 : h 3 = co 8 [vi u0, vr 4]) (h4 : h 4 = ci 32 F0) (hp : h 13 = co 3 [vi s, vi n, vr 14]) (hw : h 14 = cq 8 O) (hn : 0 ≤ n ∧ n < 8) (hs : 0 ≤ s ∧ s ≤ 8) (hO : O n = some y) (hy : h y = co 8 [vi tt, vr z]) (hz : h z = ci 32 GG) (ry : 15 ≤ y ∧ y ≤ 30) (rz : 15 ≤ z ∧ z ≤ 30) (yz : y ≠ z) (hG : VG t G) (hC : CN t G) (hkd : 0 ≤ kd ∧ kd < 4) (rx : rg x) (ru : rg u) (rv : rg v) (K1 : (plc t kd x u v) < 0 → Q (some (vi (-1))) (ma_up (ma_up h 3 (co 8 [vi t, vr 4])) 4 (ci 32 G)) 1000000) (K2 : ∀ h' E P, 0 ≤ (plc t kd x u v) → (kd = 1 ∨ kd = 3 → BP t G E P) → RF t G E P (plc t kd x u v) < 0 → kp h h' (1 :: 2 :: 3 :: 4 :: scl) → SC h' → h' 1 = co 8 [vi t, vr 2] → h' 2 = ci 32 G → Q (some (vi (RF t G E P (plc t kd x u v)))) h' 1000000) (K3 : ∀ h' E P C L ties t1, 0 ≤ (plc t kd x u v) → (kd = 1 ∨ kd = 3 → BP t G E P) → RF t G E P (plc t kd x u v) = 0 → t1 = t + gr (plc t kd x u v) → MR t G (plc t kd x u v) t1 C → LI t1 C L (24 * t1) ties → kp h h' (1 :: 2 :: 3 :: 4 :: 13 :: y :: z :: scl) → SC h' → h' 1 = co 8 [vi t1, vr 2] → h' 2 = ci 32 (stl t1 C L) → h' 13 = co 3 [vi (if 8 < s + 1 then 8 else s + 1), vi ((n + 1) % 8), vr 14] → h' y = co 8 [vi t, vr z] → h' z = ci 32 G → Q (some (vi t1)) h' 1000000) : ma_Ct mX11_moveNow (d + 5) 0 0 [vr 0, vi kd, vi x, vi u, vi v] h 1000000 Q := by
  have ht := hG.1
  refine ma_Ct.of (by decide +kernel) (Nat.le_of_ble_eq_true rfl) ?_
  refine ma_aload_n dX11_moveNow_0 rfl ?_
  refine ma_getf dX11_moveNow_1 fX11_16 (by first | assumption | exact ((ma_up_n (by decide)).trans ((ma_up_n (by decide)).trans hx)) | exact ((ma_up_n (by decide)).trans ((ma_up_n (by decide)).trans hS.1))) (by rfl) ?_
  refine ma_aload_n dX11_moveNow_4 rfl ?_
  refine ma_getf dX11_moveNow_5 fX11_10 (by first | assumption | exact ((ma_up_n (by decide)).trans ((ma_up_n (by decide)).trans hx)) | exact ((ma_up_n (by decide)).trans ((ma_up_n (by decide)).trans hS.1))) (by rfl) ?_
  refine ma_cV [_] dX11_moveNow_8 wX8_copy lX11_120 iX8_copy sX8_copy rfl (by first | assumption | exact ((ma_up_n (by decide)).trans ((ma_up_n (by decide)).trans hx)) | exact ((ma_up_n (by decide)).trans ((ma_up_n (by decide)).trans hS.1))) (Nat.le_of_ble_eq_true rfl) ?_
  refine c_X8_copy h3 h4 h1 h2 (by decide) (by decide) (by decide) ?_
  refine ma_aload_n dX11_moveNow_11 rfl ?_
  refine ma_getf dX11_moveNow_12 fX11_77 (by first | assumption | exact ((ma_up_n (by decide)).trans ((ma_up_n (by decide)).trans hx)) | exact ((ma_up_n (by decide)).trans ((ma_up_n (by decide)).trans hS.1))) (by rfl) ?_
  refine ma_aload_n dX11_moveNow_15 rfl ?_
  refine ma_getf dX11_moveNow_16 fX11_10 (by first | assumption | exact ((ma_up_n (by decide)).trans ((ma_up_n (by decide)).trans hx)) | exact ((ma_up_n (by decide)).trans ((ma_up_n (by decide)).trans hS.1))) (by rfl) ?_
  refine ma_iload_n dX11_moveNow_19 rfl ?_
  refine ma_iload_n dX11_moveNow_20 rfl ?_
  refine ma_iload_n dX11_moveNow_21 rfl ?_
  refine ma_iload dX11_moveNow_22 rfl ?_
  refine ma_cV [_, _, _, _, _] dX11_moveNow_24 wX1_attempt lX11_249 iX1_attempt sX1_attempt rfl (by first | assumption | exact ((ma_up_n (by decide)).trans ((ma_up_n (by decide)).trans hx)) | exact ((ma_up_n (by decide)).trans ((ma_up_n (by decide)).trans hS.1))) (Nat.le_of_ble_eq_true rfl) ?_
  refine c_X1_attempt (Or.inl (by decide)) (Or.inl (by decide)) (by decide) (sc_up (Or.inl (by decide)) (sc_up (Or.inl (by decide)) hS)) ((ma_up_n (by decide)).trans ((ma_up_n (by decide)).trans h1)) ((ma_up_n (by decide)).trans ((ma_up_n (by decide)).trans h2)) hG hC hkd rx ru rv (fun hk => ?_) (fun h' E P hk hB hR k1 k2 k3 k4 => ?_) (fun h' E P C L ties t1 hk hB hR et hm hl k1 k2 k3 k4 => ?_)
  · -- no place
    refine ma_istoreN dX11_moveNow_27 (by decide) rfl ?_
    refine ma_iload dX11_moveNow_29 rfl ?_
    refine ma_rif_lt 45 dX11_moveNow_31 rfl (by decide) (fun c31 => ?_) (fun c31 => absurd c31 (by decide))
    refine ma_iload dX11_moveNow_45 rfl ?_
    exact ma_iret dX11_moveNow_47 rfl (K1 hk)
  · -- refused
    have rb := RF_in (t := t) (G := G) (E := E) (P := P) (k := (plc t kd x u v))
    have kh : kp h h' (1 :: 2 :: 3 :: 4 :: scl) := kp_tr (kp_up (by simp) (kp_up (by simp) (kp_rf _ _))) (kp_mo (by simp) k1)
    refine ma_istoreN dX11_moveNow_27 (by decide) rfl ?_
    refine ma_iload dX11_moveNow_29 rfl ?_
    refine ma_rif_lt 45 dX11_moveNow_31 rfl (by constructor <;> omega) (fun c31 => ?_) (fun c31 => absurd c31 (by omega))
    refine ma_iload dX11_moveNow_45 rfl ?_
    exact ma_iret dX11_moveNow_47 rfl (K2 h' E P hk hB hR kh k2 k3 k4)
  · -- done
    have tb1 := (mr_ok hG hC hm).1.1
    have kh : kp h h' (1 :: 2 :: 3 :: 4 :: scl) := kp_tr (kp_up (by simp) (kp_up (by simp) (kp_rf _ _))) (kp_mo (by simp) k1)
    refine ma_istoreN dX11_moveNow_27 (by decide) rfl ?_
    refine ma_iload dX11_moveNow_29 rfl ?_
    refine ma_rif_lt 45 dX11_moveNow_31 rfl (by constructor <;> omega) (fun c31 => absurd c31 (by omega)) (fun c31 => ?_)
    refine ma_aload_n dX11_moveNow_34 rfl ?_
    refine ma_getf dX11_moveNow_35 fX11_33 (by first | assumption | exact (k1 0 (by simp)).trans ((ma_up_n (by decide)).trans ((ma_up_n (by decide)).trans hx)) | exact (kh 13 (by simp)).trans hp) (by rfl) ?_
    refine ma_aload_n dX11_moveNow_38 rfl ?_
    refine ma_getf dX11_moveNow_39 fX11_16 (by first | assumption | exact (k1 0 (by simp)).trans ((ma_up_n (by decide)).trans ((ma_up_n (by decide)).trans hx)) | exact (kh 13 (by simp)).trans hp) (by rfl) ?_
    refine ma_cV [_] dX11_moveNow_42 wX3_push lX11_113 iX3_push sX3_push rfl (by first | assumption | exact (k1 0 (by simp)).trans ((ma_up_n (by decide)).trans ((ma_up_n (by decide)).trans hx)) | exact (kh 13 (by simp)).trans hp) (Nat.le_of_ble_eq_true rfl) ?_
    have e : ∀ j, j ∉ (1 :: 2 :: 3 :: 4 :: scl) → h' j = h j := kh
    have ny : y ∉ (1 :: 2 :: 3 :: 4 :: scl) := nin ry
    have nz : z ∉ (1 :: 2 :: 3 :: 4 :: scl) := nin rz
    have f3 : h' 3 = co 8 [vi t, vr 4] := (k1 3 (by simp)).trans ((ma_up_n (by decide)).trans (ma_up_s _ _ _))
    have f4 : h' 4 = ci 32 G := (k1 4 (by simp)).trans (ma_up_s _ _ _)
    refine c_X3_push ((e 13 (by simp)).trans hp) ((e 14 (by simp)).trans hw) hn hs hO ((e y ny).trans hy) ((e z nz).trans hz) f3 f4 yz (by omega) (by omega) (by omega) (by omega) ?_
    refine ma_iload dX11_moveNow_45 rfl ?_
    exact ma_iret dX11_moveNow_47 rfl (K3 _ E P C L ties t1 hk hB hR et hm hl (kp_tr (kp_mo (by simp +contextual) kh) (kp_up (by simp) (kp_up (by simp) (kp_up (by simp) (kp_rf _ _))))) (sc_up (Or.inl (by decide)) (sc_up (Or.inl (by omega)) (sc_up (Or.inl (by omega)) k2))) ((ma_up_n (by decide)).trans ((ma_up_n (by omega)).trans ((ma_up_n (by omega)).trans k3))) ((ma_up_n (by decide)).trans ((ma_up_n (by omega)).trans ((ma_up_n (by omega)).trans k4))) (ma_up_s _ _ _) ((ma_up_n (by omega)).trans ((ma_up_n (by omega)).trans (ma_up_s _ _ _))) ((ma_up_n (by omega)).trans (ma_up_s _ _ _)))
theorem c_X11_two {h : ma_H} {y z d : Nat} {t u0 q0 s n tt : Int} {G F0 GG : Int → Int} {O : Int → Option Nat} {Q : Option ma_V → ma_H → Nat → Prop} {x u : Int} (hx : h 0 = co 11 (xo q0)) (hS : SC h) (h1 : h 1 = co 8 [vi t, vr 2]) (h2 : h 2 = ci 32 G) (h3 : h 3 = co 8 [vi u0, vr 4]) (h4 : h 4 = ci 32 F0) (hp : h 13 = co 3 [vi s, vi n, vr 14]) (hw : h 14 = cq 8 O) (hn : 0 ≤ n ∧ n < 8) (hs : 0 ≤ s ∧ s ≤ 8) (hO : O n = some y) (hy : h y = co 8 [vi tt, vr z]) (hz : h z = ci 32 GG) (ry : 15 ≤ y ∧ y ≤ 30) (rz : 15 ≤ z ∧ z ≤ 30) (yz : y ≠ z) (hG : VG t G) (hC : CN t G) (rx : rg x) (ru : rg u) (K1 : (plc t (0 : Int) x u 0) < 0 → Q (some (vi (-1))) (ma_up (ma_up h 3 (co 8 [vi t, vr 4])) 4 (ci 32 G)) 1000000) (K2 : ∀ h' E P, 0 ≤ (plc t (0 : Int) x u 0) → ((0 : Int) = 1 ∨ (0 : Int) = 3 → BP t G E P) → RF t G E P (plc t (0 : Int) x u 0) < 0 → kp h h' (1 :: 2 :: 3 :: 4 :: scl) → SC h' → h' 1 = co 8 [vi t, vr 2] → h' 2 = ci 32 G → Q (some (vi (RF t G E P (plc t (0 : Int) x u 0)))) h' 1000000) (K3 : ∀ h' E P C L ties t1, 0 ≤ (plc t (0 : Int) x u 0) → ((0 : Int) = 1 ∨ (0 : Int) = 3 → BP t G E P) → RF t G E P (plc t (0 : Int) x u 0) = 0 → t1 = t + gr (plc t (0 : Int) x u 0) → MR t G (plc t (0 : Int) x u 0) t1 C → LI t1 C L (24 * t1) ties → kp h h' (1 :: 2 :: 3 :: 4 :: 13 :: y :: z :: scl) → SC h' → h' 1 = co 8 [vi t1, vr 2] → h' 2 = ci 32 (stl t1 C L) → h' 13 = co 3 [vi (if 8 < s + 1 then 8 else s + 1), vi ((n + 1) % 8), vr 14] → h' y = co 8 [vi t, vr z] → h' z = ci 32 G → Q (some (vi t1)) h' 1000000) : ma_Ct mX11_two (d + 6) 0 0 [vr 0, vi x, vi u] h 1000000 Q := by
  refine ma_Ct.of (by decide +kernel) (Nat.le_of_ble_eq_true rfl) ?_
  refine ma_aload_n dX11_two_0 rfl ?_
  refine ma_iconst dX11_two_1 ?_
  refine ma_iload_n dX11_two_2 rfl ?_
  refine ma_iload_n dX11_two_3 rfl ?_
  refine ma_iconst dX11_two_4 ?_
  refine ma_cV [_, _, _, _] dX11_two_5 wX11_moveNow lX11_245 iX11_moveNow sX11_moveNow rfl (by assumption) (Nat.le_of_ble_eq_true rfl) ?_
  refine c_X11_moveNow (y := y) (z := z) hx hS h1 h2 h3 h4 hp hw hn hs hO hy hz ry rz yz hG hC (by decide) rx ru (by unfold rg; decide) (fun hk => ?_) (fun h' E P hk hB hR k1 k2 k3 k4 => ?_) (fun h' E P C L ties t1 hk hB hR et hm hl k1 k2 k3 k4 k5 k6 k7 => ?_)
  · -- i
    exact ma_iret dX11_two_8 rfl (K1 hk)
  · -- i
    exact ma_iret dX11_two_8 rfl (K2 h' E P hk hB hR k1 k2 k3 k4)
  · -- i
    exact ma_iret dX11_two_8 rfl (K3 h' E P C L ties t1 hk hB hR et hm hl k1 k2 k3 k4 k5 k6 k7)
theorem c_X11_three {h : ma_H} {y z d : Nat} {t u0 q0 s n tt : Int} {G F0 GG : Int → Int} {O : Int → Option Nat} {Q : Option ma_V → ma_H → Nat → Prop} {x u v : Int} (hx : h 0 = co 11 (xo q0)) (hS : SC h) (h1 : h 1 = co 8 [vi t, vr 2]) (h2 : h 2 = ci 32 G) (h3 : h 3 = co 8 [vi u0, vr 4]) (h4 : h 4 = ci 32 F0) (hp : h 13 = co 3 [vi s, vi n, vr 14]) (hw : h 14 = cq 8 O) (hn : 0 ≤ n ∧ n < 8) (hs : 0 ≤ s ∧ s ≤ 8) (hO : O n = some y) (hy : h y = co 8 [vi tt, vr z]) (hz : h z = ci 32 GG) (ry : 15 ≤ y ∧ y ≤ 30) (rz : 15 ≤ z ∧ z ≤ 30) (yz : y ≠ z) (hG : VG t G) (hC : CN t G) (rx : rg x) (ru : rg u) (rv : rg v) (K1 : (plc t (1 : Int) x u v) < 0 → Q (some (vi (-1))) (ma_up (ma_up h 3 (co 8 [vi t, vr 4])) 4 (ci 32 G)) 1000000) (K2 : ∀ h' E P, 0 ≤ (plc t (1 : Int) x u v) → ((1 : Int) = 1 ∨ (1 : Int) = 3 → BP t G E P) → RF t G E P (plc t (1 : Int) x u v) < 0 → kp h h' (1 :: 2 :: 3 :: 4 :: scl) → SC h' → h' 1 = co 8 [vi t, vr 2] → h' 2 = ci 32 G → Q (some (vi (RF t G E P (plc t (1 : Int) x u v)))) h' 1000000) (K3 : ∀ h' E P C L ties t1, 0 ≤ (plc t (1 : Int) x u v) → ((1 : Int) = 1 ∨ (1 : Int) = 3 → BP t G E P) → RF t G E P (plc t (1 : Int) x u v) = 0 → t1 = t + gr (plc t (1 : Int) x u v) → MR t G (plc t (1 : Int) x u v) t1 C → LI t1 C L (24 * t1) ties → kp h h' (1 :: 2 :: 3 :: 4 :: 13 :: y :: z :: scl) → SC h' → h' 1 = co 8 [vi t1, vr 2] → h' 2 = ci 32 (stl t1 C L) → h' 13 = co 3 [vi (if 8 < s + 1 then 8 else s + 1), vi ((n + 1) % 8), vr 14] → h' y = co 8 [vi t, vr z] → h' z = ci 32 G → Q (some (vi t1)) h' 1000000) : ma_Ct mX11_three (d + 6) 0 0 [vr 0, vi x, vi u, vi v] h 1000000 Q := by
  refine ma_Ct.of (by decide +kernel) (Nat.le_of_ble_eq_true rfl) ?_
  refine ma_aload_n dX11_three_0 rfl ?_
  refine ma_iconst dX11_three_1 ?_
  refine ma_iload_n dX11_three_2 rfl ?_
  refine ma_iload_n dX11_three_3 rfl ?_
  refine ma_iload_n dX11_three_4 rfl ?_
  refine ma_cV [_, _, _, _] dX11_three_5 wX11_moveNow lX11_245 iX11_moveNow sX11_moveNow rfl (by assumption) (Nat.le_of_ble_eq_true rfl) ?_
  refine c_X11_moveNow (y := y) (z := z) hx hS h1 h2 h3 h4 hp hw hn hs hO hy hz ry rz yz hG hC (by decide) rx ru rv (fun hk => ?_) (fun h' E P hk hB hR k1 k2 k3 k4 => ?_) (fun h' E P C L ties t1 hk hB hR et hm hl k1 k2 k3 k4 k5 k6 k7 => ?_)
  · -- i
    exact ma_iret dX11_three_8 rfl (K1 hk)
  · -- i
    exact ma_iret dX11_three_8 rfl (K2 h' E P hk hB hR k1 k2 k3 k4)
  · -- i
    exact ma_iret dX11_three_8 rfl (K3 h' E P C L ties t1 hk hB hR et hm hl k1 k2 k3 k4 k5 k6 k7)
theorem c_X11_one {h : ma_H} {y z d : Nat} {t u0 q0 s n tt : Int} {G F0 GG : Int → Int} {O : Int → Option Nat} {Q : Option ma_V → ma_H → Nat → Prop} {x : Int} (hx : h 0 = co 11 (xo q0)) (hS : SC h) (h1 : h 1 = co 8 [vi t, vr 2]) (h2 : h 2 = ci 32 G) (h3 : h 3 = co 8 [vi u0, vr 4]) (h4 : h 4 = ci 32 F0) (hp : h 13 = co 3 [vi s, vi n, vr 14]) (hw : h 14 = cq 8 O) (hn : 0 ≤ n ∧ n < 8) (hs : 0 ≤ s ∧ s ≤ 8) (hO : O n = some y) (hy : h y = co 8 [vi tt, vr z]) (hz : h z = ci 32 GG) (ry : 15 ≤ y ∧ y ≤ 30) (rz : 15 ≤ z ∧ z ≤ 30) (yz : y ≠ z) (hG : VG t G) (hC : CN t G) (rx : rg x) (K1 : (plc t (2 : Int) x 0 0) < 0 → Q (some (vi (-1))) (ma_up (ma_up h 3 (co 8 [vi t, vr 4])) 4 (ci 32 G)) 1000000) (K2 : ∀ h' E P, 0 ≤ (plc t (2 : Int) x 0 0) → ((2 : Int) = 1 ∨ (2 : Int) = 3 → BP t G E P) → RF t G E P (plc t (2 : Int) x 0 0) < 0 → kp h h' (1 :: 2 :: 3 :: 4 :: scl) → SC h' → h' 1 = co 8 [vi t, vr 2] → h' 2 = ci 32 G → Q (some (vi (RF t G E P (plc t (2 : Int) x 0 0)))) h' 1000000) (K3 : ∀ h' E P C L ties t1, 0 ≤ (plc t (2 : Int) x 0 0) → ((2 : Int) = 1 ∨ (2 : Int) = 3 → BP t G E P) → RF t G E P (plc t (2 : Int) x 0 0) = 0 → t1 = t + gr (plc t (2 : Int) x 0 0) → MR t G (plc t (2 : Int) x 0 0) t1 C → LI t1 C L (24 * t1) ties → kp h h' (1 :: 2 :: 3 :: 4 :: 13 :: y :: z :: scl) → SC h' → h' 1 = co 8 [vi t1, vr 2] → h' 2 = ci 32 (stl t1 C L) → h' 13 = co 3 [vi (if 8 < s + 1 then 8 else s + 1), vi ((n + 1) % 8), vr 14] → h' y = co 8 [vi t, vr z] → h' z = ci 32 G → Q (some (vi t1)) h' 1000000) : ma_Ct mX11_one (d + 6) 0 0 [vr 0, vi x] h 1000000 Q := by
  refine ma_Ct.of (by decide +kernel) (Nat.le_of_ble_eq_true rfl) ?_
  refine ma_aload_n dX11_one_0 rfl ?_
  refine ma_iconst dX11_one_1 ?_
  refine ma_iload_n dX11_one_2 rfl ?_
  refine ma_iconst dX11_one_3 ?_
  refine ma_iconst dX11_one_4 ?_
  refine ma_cV [_, _, _, _] dX11_one_5 wX11_moveNow lX11_245 iX11_moveNow sX11_moveNow rfl (by assumption) (Nat.le_of_ble_eq_true rfl) ?_
  refine c_X11_moveNow (y := y) (z := z) hx hS h1 h2 h3 h4 hp hw hn hs hO hy hz ry rz yz hG hC (by decide) rx (by unfold rg; decide) (by unfold rg; decide) (fun hk => ?_) (fun h' E P hk hB hR k1 k2 k3 k4 => ?_) (fun h' E P C L ties t1 hk hB hR et hm hl k1 k2 k3 k4 k5 k6 k7 => ?_)
  · -- i
    exact ma_iret dX11_one_8 rfl (K1 hk)
  · -- i
    exact ma_iret dX11_one_8 rfl (K2 h' E P hk hB hR k1 k2 k3 k4)
  · -- i
    exact ma_iret dX11_one_8 rfl (K3 h' E P C L ties t1 hk hB hR et hm hl k1 k2 k3 k4 k5 k6 k7)
theorem c_X11_four {h : ma_H} {y z d : Nat} {t u0 q0 s n tt : Int} {G F0 GG : Int → Int} {O : Int → Option Nat} {Q : Option ma_V → ma_H → Nat → Prop} {x u : Int} (hx : h 0 = co 11 (xo q0)) (hS : SC h) (h1 : h 1 = co 8 [vi t, vr 2]) (h2 : h 2 = ci 32 G) (h3 : h 3 = co 8 [vi u0, vr 4]) (h4 : h 4 = ci 32 F0) (hp : h 13 = co 3 [vi s, vi n, vr 14]) (hw : h 14 = cq 8 O) (hn : 0 ≤ n ∧ n < 8) (hs : 0 ≤ s ∧ s ≤ 8) (hO : O n = some y) (hy : h y = co 8 [vi tt, vr z]) (hz : h z = ci 32 GG) (ry : 15 ≤ y ∧ y ≤ 30) (rz : 15 ≤ z ∧ z ≤ 30) (yz : y ≠ z) (hG : VG t G) (hC : CN t G) (rx : rg x) (ru : rg u) (K1 : (plc t (3 : Int) x u 0) < 0 → Q (some (vi (-1))) (ma_up (ma_up h 3 (co 8 [vi t, vr 4])) 4 (ci 32 G)) 1000000) (K2 : ∀ h' E P, 0 ≤ (plc t (3 : Int) x u 0) → ((3 : Int) = 1 ∨ (3 : Int) = 3 → BP t G E P) → RF t G E P (plc t (3 : Int) x u 0) < 0 → kp h h' (1 :: 2 :: 3 :: 4 :: scl) → SC h' → h' 1 = co 8 [vi t, vr 2] → h' 2 = ci 32 G → Q (some (vi (RF t G E P (plc t (3 : Int) x u 0)))) h' 1000000) (K3 : ∀ h' E P C L ties t1, 0 ≤ (plc t (3 : Int) x u 0) → ((3 : Int) = 1 ∨ (3 : Int) = 3 → BP t G E P) → RF t G E P (plc t (3 : Int) x u 0) = 0 → t1 = t + gr (plc t (3 : Int) x u 0) → MR t G (plc t (3 : Int) x u 0) t1 C → LI t1 C L (24 * t1) ties → kp h h' (1 :: 2 :: 3 :: 4 :: 13 :: y :: z :: scl) → SC h' → h' 1 = co 8 [vi t1, vr 2] → h' 2 = ci 32 (stl t1 C L) → h' 13 = co 3 [vi (if 8 < s + 1 then 8 else s + 1), vi ((n + 1) % 8), vr 14] → h' y = co 8 [vi t, vr z] → h' z = ci 32 G → Q (some (vi t1)) h' 1000000) : ma_Ct mX11_four (d + 6) 0 0 [vr 0, vi x, vi u] h 1000000 Q := by
  refine ma_Ct.of (by decide +kernel) (Nat.le_of_ble_eq_true rfl) ?_
  refine ma_aload_n dX11_four_0 rfl ?_
  refine ma_iconst dX11_four_1 ?_
  refine ma_iload_n dX11_four_2 rfl ?_
  refine ma_iload_n dX11_four_3 rfl ?_
  refine ma_iconst dX11_four_4 ?_
  refine ma_cV [_, _, _, _] dX11_four_5 wX11_moveNow lX11_245 iX11_moveNow sX11_moveNow rfl (by assumption) (Nat.le_of_ble_eq_true rfl) ?_
  refine c_X11_moveNow (y := y) (z := z) hx hS h1 h2 h3 h4 hp hw hn hs hO hy hz ry rz yz hG hC (by decide) rx ru (by unfold rg; decide) (fun hk => ?_) (fun h' E P hk hB hR k1 k2 k3 k4 => ?_) (fun h' E P C L ties t1 hk hB hR et hm hl k1 k2 k3 k4 k5 k6 k7 => ?_)
  · -- i
    exact ma_iret dX11_four_8 rfl (K1 hk)
  · -- i
    exact ma_iret dX11_four_8 rfl (K2 h' E P hk hB hR k1 k2 k3 k4)
  · -- i
    exact ma_iret dX11_four_8 rfl (K3 h' E P C L ties t1 hk hB hR et hm hl k1 k2 k3 k4 k5 k6 k7)
