theorem smo_kq {h h' : ma_H} {l : List Nat} (k : kp h h' l) (hl : ∀ j, j ∈ l → mlen j = 0 ∧ j ≠ 77) (s : SMO h) : SMO h' := by
  refine ⟨fun j hj => ?_, ?_⟩
  · obtain ⟨f, e⟩ := s.1 j hj
    exact ⟨f, (k j (fun z => by have := (hl j z).1; omega)).trans e⟩
  · obtain ⟨pf, e, p⟩ := s.2
    exact ⟨pf, (k 77 (fun z => (hl 77 z).2 rfl)).trans e, p⟩
set_option maxHeartbeats 2000000 in
theorem c_X12_doMove {h : ma_H} {nx d : Nat} {t t1 : Int} {G Aa G1 W U : Int → Int} {I : Nat → Int} {Q : Option ma_V → ma_H → Nat → Prop} {kd x u v : Int} (hM : h 73 = co 12 (mo I)) (hS : SMO h) (h74 : h 74 = ci 33 Aa) (h99 : h 99 = ci 264 U) (h100 : h 100 = ci 33 W) (w0 : 0 ≤ I 40 ∧ I 40 ≤ 8) (hG : VG t G) (hC : CN t G) (hA : AG t G Aa) (hst : 0 ≤ (plc t kd x u v) → (∃ E P, (kd = 1 ∨ kd = 3 → BP t G E P) ∧ RF t G E P (plc t kd x u v) = 0) → STP t G (plc t kd x u v) t1 G1) (hkd : 0 ≤ kd ∧ kd < 4) (rx : rg x) (ru : rg u) (rv : rg v) (K1 : (plc t kd x u v) < 0 → ∀ h', kp h h' (73 :: 74 :: 99 :: 100 :: mvl) → h' 73 = co 12 (mo I) → SMO h' → Q (some (vi (-1))) h' nx) (K2 : 0 ≤ (plc t kd x u v) → ∀ E P, (kd = 1 ∨ kd = 3 → BP t G E P) → RF t G E P (plc t kd x u v) < 0 → ∀ h' I', kp h h' (73 :: 74 :: 99 :: 100 :: mvl) → h' 73 = co 12 (mo I') → KI I I' → SMO h' → h' 74 = ci 33 Aa → h' 99 = ci 264 U → Q (some (vi (RF t G E P (plc t kd x u v)))) h' nx) (K3 : 0 ≤ (plc t kd x u v) → (∃ E P, (kd = 1 ∨ kd = 3 → BP t G E P) ∧ RF t G E P (plc t kd x u v) = 0) → ∀ h' I' A' V, kp h h' (73 :: 74 :: 99 :: 100 :: mvl) → h' 73 = co 12 (mo I') → I' 40 = (if I 40 = 8 then 8 else I 40 + 1) → (∀ k, k ≠ 40 → k ≠ 12 → k ≠ 32 → k ≠ 34 → I' k = I k) → SMO h' → h' 74 = ci 33 A' → AG t1 G1 A' → h' 99 = ci 264 V → UN (I 40) U Aa V → Q (some (vi t1)) h' nx) : ma_Ct mX12_doMove (d + 7) 0 0 [vr 73, vi kd, vi x, vi u, vi v] h nx Q := by
  have ht := hG.1
  refine ma_Ct.of (by decide +kernel) (Nat.le_of_ble_eq_true rfl) ?_
  refine ma_aload_n dX12_doMove_0 rfl ?_
  refine ma_getf dX12_doMove_1 fX12_9 (by first | assumption | exact (ma_up_n (by decide)).trans (by assumption)) (by rfl) ?_
  refine ma_aload_n dX12_doMove_4 rfl ?_
  refine ma_getf dX12_doMove_5 fX12_90 (by first | assumption | exact (ma_up_n (by decide)).trans (by assumption)) (by rfl) ?_
  refine ma_cS [_, _] dX12_doMove_8 wX12_lay lX12_168 tX12_lay (Nat.le_of_ble_eq_true rfl) ?_
  refine c_X12_lay h74 h100 (by decide) ?_
  refine ma_aload_n dX12_doMove_11 rfl ?_
  refine ma_aload_n dX12_doMove_12 rfl ?_
  refine ma_getf dX12_doMove_13 fX12_90 (by first | assumption | exact (ma_up_n (by decide)).trans (by assumption)) (by rfl) ?_
  refine ma_iload_n dX12_doMove_16 rfl ?_
  refine ma_iload_n dX12_doMove_17 rfl ?_
  refine ma_iload_n dX12_doMove_18 rfl ?_
  refine ma_iload dX12_doMove_19 rfl ?_
  refine ma_cV [_, _, _, _, _] dX12_doMove_21 wX12_goMove lX12_440 iX12_goMove sX12_goMove rfl (by first | assumption | exact (ma_up_n (by decide)).trans (by assumption)) (Nat.le_of_ble_eq_true rfl) ?_
  refine c_X12_goMove ((ma_up_n (by decide)).trans hM) (smo_n (by decide) (by decide) hS) (ma_up_s _ _ _) (by decide) (Or.inl (by decide)) hG hC hA hkd rx ru rv hst (fun hk => ?_) (fun hk E P hB hR h' I' hmp hb => ?_) (fun hk hR h' I' A' hmp hb hA' => ?_)
  · -- no place
    refine ma_istoreN dX12_doMove_24 (by decide) rfl ?_
    refine ma_iload dX12_doMove_26 rfl ?_
    refine ma_rif_ge 34 dX12_doMove_28 rfl (by decide) (fun c28 => absurd c28 (by decide)) (fun c28 => ?_)
    refine ma_iload dX12_doMove_31 rfl ?_
    exact ma_iret dX12_doMove_33 rfl (K1 hk _ (kp_up (by simp) (kp_rf _ _)) ((ma_up_n (by decide)).trans hM) (smo_n (by decide) (by decide) hS))
  · -- refused
    have rb := RF_in (t := t) (G := G) (E := E) (P := P) (k := (plc t kd x u v))
    have kh : kp h h' (100 :: mvl) := kp_tr (kp_up (by simp) (kp_rf _ _)) (kp_mo (by simp) hmp.1)
    have f74 : h' 74 = ci 33 Aa := (kh 74 (by simp)).trans h74
    have f99 : h' 99 = ci 264 U := (kh 99 (by simp)).trans h99
    refine ma_istoreN dX12_doMove_24 (by decide) rfl ?_
    refine ma_iload dX12_doMove_26 rfl ?_
    refine ma_rif_ge 34 dX12_doMove_28 rfl (by constructor <;> omega) (fun c28 => absurd c28 (by omega)) (fun c28 => ?_)
    refine ma_iload dX12_doMove_31 rfl ?_
    exact ma_iret dX12_doMove_33 rfl (K2 hk E P hB hR h' I' (kp_mo (by simp +contextual) kh) hmp.2.1 hmp.2.2.1 hmp.2.2.2 f74 f99)
  · -- done
    have kh : kp h h' (100 :: mvl) := kp_tr (kp_up (by simp) (kp_rf _ _)) (kp_mo (by simp) hmp.1)
    have f74 : h' 74 = ci 33 Aa := (kh 74 (by simp)).trans h74
    have f99 : h' 99 = ci 264 U := (kh 99 (by simp)).trans h99
    have e40 : I' 40 = I 40 := hmp.2.2.1 40 (by decide) (by decide) (by decide)
    refine ma_istoreN dX12_doMove_24 (by decide) rfl ?_
    refine ma_iload dX12_doMove_26 rfl ?_
    refine ma_rif_ge 34 dX12_doMove_28 rfl (by decide) (fun c28 => ?_) (fun c28 => absurd c28 (by decide))
    refine ma_aload_n dX12_doMove_34 rfl ?_
    refine ma_aload_n dX12_doMove_35 rfl ?_
    refine ma_getf dX12_doMove_36 fX12_90 (by first | exact hmp.2.1 | exact g2 | exact g5 | assumption) (by rfl) ?_
    refine ma_cV [_] dX12_doMove_39 wX12_change lX12_224 iX12_change sX12_change rfl (by first | exact hmp.2.1 | exact g2 | exact g5 | assumption) (Nat.le_of_ble_eq_true rfl) ?_
    refine c_X12_change hmp.2.1 f74 f99 hb (by decide) (by rw [e40]; exact w0) (fun h2 I2 V g1 g2 g3 g4 g5 g6 g7 => ?_)
    refine ma_aload_n dX12_doMove_42 rfl ?_
    refine ma_getf dX12_doMove_43 fX12_9 (by first | exact hmp.2.1 | exact g2 | exact g5 | assumption) (by rfl) ?_
    refine ma_iconst dX12_doMove_46 ?_
    refine ma_iald dX12_doMove_47 (by first | exact hmp.2.1 | exact g2 | exact g5 | assumption) (by omega) (by omega) (by omega) ?_
    rw [hA'.1]
    exact ma_iret dX12_doMove_48 rfl (K3 hk hR h2 I2 A' V (kp_tr (kp_mo (by simp +contextual) kh) (kp_mo (by simp +contextual) g1)) g2 (by rw [g3, e40]) (fun k k1 k2 k3 k4 => (g4 k k1).trans (hmp.2.2.1 k k2 k3 k4)) (smo_kq g1 (by decide) hmp.2.2.2) g5 hA' g6 (by rw [e40] at g7; exact g7))
theorem c_X12_two {h : ma_H} {nx d : Nat} {t t1 : Int} {G Aa G1 W U : Int → Int} {I : Nat → Int} {Q : Option ma_V → ma_H → Nat → Prop} {x u : Int} (hM : h 73 = co 12 (mo I)) (hS : SMO h) (h74 : h 74 = ci 33 Aa) (h99 : h 99 = ci 264 U) (h100 : h 100 = ci 33 W) (w0 : 0 ≤ I 40 ∧ I 40 ≤ 8) (hG : VG t G) (hC : CN t G) (hA : AG t G Aa) (hst : 0 ≤ (plc t (0 : Int) x u 0) → (∃ E P, ((0 : Int) = 1 ∨ (0 : Int) = 3 → BP t G E P) ∧ RF t G E P (plc t (0 : Int) x u 0) = 0) → STP t G (plc t (0 : Int) x u 0) t1 G1) (rx : rg x) (ru : rg u) (K1 : (plc t (0 : Int) x u 0) < 0 → ∀ h', kp h h' (73 :: 74 :: 99 :: 100 :: mvl) → h' 73 = co 12 (mo (iu I 5 0)) → SMO h' → Q (some (vi (-1))) h' nx) (K2 : 0 ≤ (plc t (0 : Int) x u 0) → ∀ E P, ((0 : Int) = 1 ∨ (0 : Int) = 3 → BP t G E P) → RF t G E P (plc t (0 : Int) x u 0) < 0 → ∀ h' I', kp h h' (73 :: 74 :: 99 :: 100 :: mvl) → h' 73 = co 12 (mo I') → KI (iu I 5 0) I' → SMO h' → h' 74 = ci 33 Aa → h' 99 = ci 264 U → Q (some (vi (RF t G E P (plc t (0 : Int) x u 0)))) h' nx) (K3 : 0 ≤ (plc t (0 : Int) x u 0) → (∃ E P, ((0 : Int) = 1 ∨ (0 : Int) = 3 → BP t G E P) ∧ RF t G E P (plc t (0 : Int) x u 0) = 0) → ∀ h' I' A' V, kp h h' (73 :: 74 :: 99 :: 100 :: mvl) → h' 73 = co 12 (mo I') → I' 40 = (if I 40 = 8 then 8 else I 40 + 1) → (∀ k, k ≠ 40 → k ≠ 12 → k ≠ 32 → k ≠ 34 → I' k = (iu I 5 0) k) → SMO h' → h' 74 = ci 33 A' → AG t1 G1 A' → h' 99 = ci 264 V → UN (I 40) U Aa V → Q (some (vi t1)) h' nx) : ma_Ct mX12_two (d + 8) 0 0 [vr 73, vi x, vi u] h nx Q := by
  refine ma_Ct.of (by decide +kernel) (Nat.le_of_ble_eq_true rfl) ?_
  refine ma_aload_n dX12_two_0 rfl ?_
  refine ma_iconst dX12_two_1 ?_
  refine ma_puti dX12_two_2 fX12_128 (by first | assumption | exact ma_up_s _ _ _) (Nat.le_of_ble_eq_true rfl) ?_
  rw [mo_5]
  refine ma_aload_n dX12_two_5 rfl ?_
  refine ma_iconst dX12_two_6 ?_
  refine ma_iload_n dX12_two_7 rfl ?_
  refine ma_iload_n dX12_two_8 rfl ?_
  refine ma_iconst dX12_two_9 ?_
  refine ma_cV [_, _, _, _] dX12_two_10 wX12_doMove lX12_444 iX12_doMove sX12_doMove rfl (by first | assumption | exact ma_up_s _ _ _) (Nat.le_of_ble_eq_true rfl) ?_
  refine c_X12_doMove (t1 := t1) (G1 := G1) (U := U) (W := W) (I := iu I 5 0) (ma_up_s _ _ _) (smo_n (by decide) (by decide) hS) ((ma_up_n (by decide)).trans h74) ((ma_up_n (by decide)).trans h99) ((ma_up_n (by decide)).trans h100) w0 hG hC hA hst (by decide) rx ru (by unfold rg; decide) (fun hk h' k1 k2 k3 => ?_) (fun hk E P hB hR h' I' k1 k2 k3 k4 k5 k6 => ?_) (fun hk hR h' I' A' V k1 k2 k3 k4 k5 k6 k7 k8 k9 => ?_)
  · -- i
    exact ma_iret dX12_two_13 rfl (K1 hk h' (kp_tr (kp_up (by simp) (kp_rf _ _)) k1) k2 k3)
  · -- i
    exact ma_iret dX12_two_13 rfl (K2 hk E P hB hR h' I' (kp_tr (kp_up (by simp) (kp_rf _ _)) k1) k2 k3 k4 k5 k6)
  · -- i
    exact ma_iret dX12_two_13 rfl (K3 hk hR h' I' A' V (kp_tr (kp_up (by simp) (kp_rf _ _)) k1) k2 k3 k4 k5 k6 k7 k8 k9)
theorem c_X12_three {h : ma_H} {nx d : Nat} {t t1 : Int} {G Aa G1 W U : Int → Int} {I : Nat → Int} {Q : Option ma_V → ma_H → Nat → Prop} {x u v : Int} (hM : h 73 = co 12 (mo I)) (hS : SMO h) (h74 : h 74 = ci 33 Aa) (h99 : h 99 = ci 264 U) (h100 : h 100 = ci 33 W) (w0 : 0 ≤ I 40 ∧ I 40 ≤ 8) (hG : VG t G) (hC : CN t G) (hA : AG t G Aa) (hst : 0 ≤ (plc t (1 : Int) x u v) → (∃ E P, ((1 : Int) = 1 ∨ (1 : Int) = 3 → BP t G E P) ∧ RF t G E P (plc t (1 : Int) x u v) = 0) → STP t G (plc t (1 : Int) x u v) t1 G1) (rx : rg x) (ru : rg u) (rv : rg v) (K1 : (plc t (1 : Int) x u v) < 0 → ∀ h', kp h h' (73 :: 74 :: 99 :: 100 :: mvl) → h' 73 = co 12 (mo (iu I 5 0)) → SMO h' → Q (some (vi (-1))) h' nx) (K2 : 0 ≤ (plc t (1 : Int) x u v) → ∀ E P, ((1 : Int) = 1 ∨ (1 : Int) = 3 → BP t G E P) → RF t G E P (plc t (1 : Int) x u v) < 0 → ∀ h' I', kp h h' (73 :: 74 :: 99 :: 100 :: mvl) → h' 73 = co 12 (mo I') → KI (iu I 5 0) I' → SMO h' → h' 74 = ci 33 Aa → h' 99 = ci 264 U → Q (some (vi (RF t G E P (plc t (1 : Int) x u v)))) h' nx) (K3 : 0 ≤ (plc t (1 : Int) x u v) → (∃ E P, ((1 : Int) = 1 ∨ (1 : Int) = 3 → BP t G E P) ∧ RF t G E P (plc t (1 : Int) x u v) = 0) → ∀ h' I' A' V, kp h h' (73 :: 74 :: 99 :: 100 :: mvl) → h' 73 = co 12 (mo I') → I' 40 = (if I 40 = 8 then 8 else I 40 + 1) → (∀ k, k ≠ 40 → k ≠ 12 → k ≠ 32 → k ≠ 34 → I' k = (iu I 5 0) k) → SMO h' → h' 74 = ci 33 A' → AG t1 G1 A' → h' 99 = ci 264 V → UN (I 40) U Aa V → Q (some (vi t1)) h' nx) : ma_Ct mX12_three (d + 8) 0 0 [vr 73, vi x, vi u, vi v] h nx Q := by
  refine ma_Ct.of (by decide +kernel) (Nat.le_of_ble_eq_true rfl) ?_
  refine ma_aload_n dX12_three_0 rfl ?_
  refine ma_iconst dX12_three_1 ?_
  refine ma_puti dX12_three_2 fX12_128 (by first | assumption | exact ma_up_s _ _ _) (Nat.le_of_ble_eq_true rfl) ?_
  rw [mo_5]
  refine ma_aload_n dX12_three_5 rfl ?_
  refine ma_iconst dX12_three_6 ?_
  refine ma_iload_n dX12_three_7 rfl ?_
  refine ma_iload_n dX12_three_8 rfl ?_
  refine ma_iload_n dX12_three_9 rfl ?_
  refine ma_cV [_, _, _, _] dX12_three_10 wX12_doMove lX12_444 iX12_doMove sX12_doMove rfl (by first | assumption | exact ma_up_s _ _ _) (Nat.le_of_ble_eq_true rfl) ?_
  refine c_X12_doMove (t1 := t1) (G1 := G1) (U := U) (W := W) (I := iu I 5 0) (ma_up_s _ _ _) (smo_n (by decide) (by decide) hS) ((ma_up_n (by decide)).trans h74) ((ma_up_n (by decide)).trans h99) ((ma_up_n (by decide)).trans h100) w0 hG hC hA hst (by decide) rx ru rv (fun hk h' k1 k2 k3 => ?_) (fun hk E P hB hR h' I' k1 k2 k3 k4 k5 k6 => ?_) (fun hk hR h' I' A' V k1 k2 k3 k4 k5 k6 k7 k8 k9 => ?_)
  · -- i
    exact ma_iret dX12_three_13 rfl (K1 hk h' (kp_tr (kp_up (by simp) (kp_rf _ _)) k1) k2 k3)
  · -- i
    exact ma_iret dX12_three_13 rfl (K2 hk E P hB hR h' I' (kp_tr (kp_up (by simp) (kp_rf _ _)) k1) k2 k3 k4 k5 k6)
  · -- i
    exact ma_iret dX12_three_13 rfl (K3 hk hR h' I' A' V (kp_tr (kp_up (by simp) (kp_rf _ _)) k1) k2 k3 k4 k5 k6 k7 k8 k9)
theorem c_X12_one {h : ma_H} {nx d : Nat} {t t1 : Int} {G Aa G1 W U : Int → Int} {I : Nat → Int} {Q : Option ma_V → ma_H → Nat → Prop} {x : Int} (hM : h 73 = co 12 (mo I)) (hS : SMO h) (h74 : h 74 = ci 33 Aa) (h99 : h 99 = ci 264 U) (h100 : h 100 = ci 33 W) (w0 : 0 ≤ I 40 ∧ I 40 ≤ 8) (hG : VG t G) (hC : CN t G) (hA : AG t G Aa) (hst : 0 ≤ (plc t (2 : Int) x 0 0) → (∃ E P, ((2 : Int) = 1 ∨ (2 : Int) = 3 → BP t G E P) ∧ RF t G E P (plc t (2 : Int) x 0 0) = 0) → STP t G (plc t (2 : Int) x 0 0) t1 G1) (rx : rg x) (K1 : (plc t (2 : Int) x 0 0) < 0 → ∀ h', kp h h' (73 :: 74 :: 99 :: 100 :: mvl) → h' 73 = co 12 (mo (iu I 5 0)) → SMO h' → Q (some (vi (-1))) h' nx) (K2 : 0 ≤ (plc t (2 : Int) x 0 0) → ∀ E P, ((2 : Int) = 1 ∨ (2 : Int) = 3 → BP t G E P) → RF t G E P (plc t (2 : Int) x 0 0) < 0 → ∀ h' I', kp h h' (73 :: 74 :: 99 :: 100 :: mvl) → h' 73 = co 12 (mo I') → KI (iu I 5 0) I' → SMO h' → h' 74 = ci 33 Aa → h' 99 = ci 264 U → Q (some (vi (RF t G E P (plc t (2 : Int) x 0 0)))) h' nx) (K3 : 0 ≤ (plc t (2 : Int) x 0 0) → (∃ E P, ((2 : Int) = 1 ∨ (2 : Int) = 3 → BP t G E P) ∧ RF t G E P (plc t (2 : Int) x 0 0) = 0) → ∀ h' I' A' V, kp h h' (73 :: 74 :: 99 :: 100 :: mvl) → h' 73 = co 12 (mo I') → I' 40 = (if I 40 = 8 then 8 else I 40 + 1) → (∀ k, k ≠ 40 → k ≠ 12 → k ≠ 32 → k ≠ 34 → I' k = (iu I 5 0) k) → SMO h' → h' 74 = ci 33 A' → AG t1 G1 A' → h' 99 = ci 264 V → UN (I 40) U Aa V → Q (some (vi t1)) h' nx) : ma_Ct mX12_one (d + 8) 0 0 [vr 73, vi x] h nx Q := by
  refine ma_Ct.of (by decide +kernel) (Nat.le_of_ble_eq_true rfl) ?_
  refine ma_aload_n dX12_one_0 rfl ?_
  refine ma_iconst dX12_one_1 ?_
  refine ma_puti dX12_one_2 fX12_128 (by first | assumption | exact ma_up_s _ _ _) (Nat.le_of_ble_eq_true rfl) ?_
  rw [mo_5]
  refine ma_aload_n dX12_one_5 rfl ?_
  refine ma_iconst dX12_one_6 ?_
  refine ma_iload_n dX12_one_7 rfl ?_
  refine ma_iconst dX12_one_8 ?_
  refine ma_iconst dX12_one_9 ?_
  refine ma_cV [_, _, _, _] dX12_one_10 wX12_doMove lX12_444 iX12_doMove sX12_doMove rfl (by first | assumption | exact ma_up_s _ _ _) (Nat.le_of_ble_eq_true rfl) ?_
  refine c_X12_doMove (t1 := t1) (G1 := G1) (U := U) (W := W) (I := iu I 5 0) (ma_up_s _ _ _) (smo_n (by decide) (by decide) hS) ((ma_up_n (by decide)).trans h74) ((ma_up_n (by decide)).trans h99) ((ma_up_n (by decide)).trans h100) w0 hG hC hA hst (by decide) rx (by unfold rg; decide) (by unfold rg; decide) (fun hk h' k1 k2 k3 => ?_) (fun hk E P hB hR h' I' k1 k2 k3 k4 k5 k6 => ?_) (fun hk hR h' I' A' V k1 k2 k3 k4 k5 k6 k7 k8 k9 => ?_)
  · -- i
    exact ma_iret dX12_one_13 rfl (K1 hk h' (kp_tr (kp_up (by simp) (kp_rf _ _)) k1) k2 k3)
  · -- i
    exact ma_iret dX12_one_13 rfl (K2 hk E P hB hR h' I' (kp_tr (kp_up (by simp) (kp_rf _ _)) k1) k2 k3 k4 k5 k6)
  · -- i
    exact ma_iret dX12_one_13 rfl (K3 hk hR h' I' A' V (kp_tr (kp_up (by simp) (kp_rf _ _)) k1) k2 k3 k4 k5 k6 k7 k8 k9)
theorem c_X12_four {h : ma_H} {nx d : Nat} {t t1 : Int} {G Aa G1 W U : Int → Int} {I : Nat → Int} {Q : Option ma_V → ma_H → Nat → Prop} {x u : Int} (hM : h 73 = co 12 (mo I)) (hS : SMO h) (h74 : h 74 = ci 33 Aa) (h99 : h 99 = ci 264 U) (h100 : h 100 = ci 33 W) (w0 : 0 ≤ I 40 ∧ I 40 ≤ 8) (hG : VG t G) (hC : CN t G) (hA : AG t G Aa) (hst : 0 ≤ (plc t (3 : Int) x u 0) → (∃ E P, ((3 : Int) = 1 ∨ (3 : Int) = 3 → BP t G E P) ∧ RF t G E P (plc t (3 : Int) x u 0) = 0) → STP t G (plc t (3 : Int) x u 0) t1 G1) (rx : rg x) (ru : rg u) (K1 : (plc t (3 : Int) x u 0) < 0 → ∀ h', kp h h' (73 :: 74 :: 99 :: 100 :: mvl) → h' 73 = co 12 (mo (iu I 5 0)) → SMO h' → Q (some (vi (-1))) h' nx) (K2 : 0 ≤ (plc t (3 : Int) x u 0) → ∀ E P, ((3 : Int) = 1 ∨ (3 : Int) = 3 → BP t G E P) → RF t G E P (plc t (3 : Int) x u 0) < 0 → ∀ h' I', kp h h' (73 :: 74 :: 99 :: 100 :: mvl) → h' 73 = co 12 (mo I') → KI (iu I 5 0) I' → SMO h' → h' 74 = ci 33 Aa → h' 99 = ci 264 U → Q (some (vi (RF t G E P (plc t (3 : Int) x u 0)))) h' nx) (K3 : 0 ≤ (plc t (3 : Int) x u 0) → (∃ E P, ((3 : Int) = 1 ∨ (3 : Int) = 3 → BP t G E P) ∧ RF t G E P (plc t (3 : Int) x u 0) = 0) → ∀ h' I' A' V, kp h h' (73 :: 74 :: 99 :: 100 :: mvl) → h' 73 = co 12 (mo I') → I' 40 = (if I 40 = 8 then 8 else I 40 + 1) → (∀ k, k ≠ 40 → k ≠ 12 → k ≠ 32 → k ≠ 34 → I' k = (iu I 5 0) k) → SMO h' → h' 74 = ci 33 A' → AG t1 G1 A' → h' 99 = ci 264 V → UN (I 40) U Aa V → Q (some (vi t1)) h' nx) : ma_Ct mX12_four (d + 8) 0 0 [vr 73, vi x, vi u] h nx Q := by
  refine ma_Ct.of (by decide +kernel) (Nat.le_of_ble_eq_true rfl) ?_
  refine ma_aload_n dX12_four_0 rfl ?_
  refine ma_iconst dX12_four_1 ?_
  refine ma_puti dX12_four_2 fX12_128 (by first | assumption | exact ma_up_s _ _ _) (Nat.le_of_ble_eq_true rfl) ?_
  rw [mo_5]
  refine ma_aload_n dX12_four_5 rfl ?_
  refine ma_iconst dX12_four_6 ?_
  refine ma_iload_n dX12_four_7 rfl ?_
  refine ma_iload_n dX12_four_8 rfl ?_
  refine ma_iconst dX12_four_9 ?_
  refine ma_cV [_, _, _, _] dX12_four_10 wX12_doMove lX12_444 iX12_doMove sX12_doMove rfl (by first | assumption | exact ma_up_s _ _ _) (Nat.le_of_ble_eq_true rfl) ?_
  refine c_X12_doMove (t1 := t1) (G1 := G1) (U := U) (W := W) (I := iu I 5 0) (ma_up_s _ _ _) (smo_n (by decide) (by decide) hS) ((ma_up_n (by decide)).trans h74) ((ma_up_n (by decide)).trans h99) ((ma_up_n (by decide)).trans h100) w0 hG hC hA hst (by decide) rx ru (by unfold rg; decide) (fun hk h' k1 k2 k3 => ?_) (fun hk E P hB hR h' I' k1 k2 k3 k4 k5 k6 => ?_) (fun hk hR h' I' A' V k1 k2 k3 k4 k5 k6 k7 k8 k9 => ?_)
  · -- i
    exact ma_iret dX12_four_13 rfl (K1 hk h' (kp_tr (kp_up (by simp) (kp_rf _ _)) k1) k2 k3)
  · -- i
    exact ma_iret dX12_four_13 rfl (K2 hk E P hB hR h' I' (kp_tr (kp_up (by simp) (kp_rf _ _)) k1) k2 k3 k4 k5 k6)
  · -- i
    exact ma_iret dX12_four_13 rfl (K3 hk hR h' I' A' V (kp_tr (kp_up (by simp) (kp_rf _ _)) k1) k2 k3 k4 k5 k6 k7 k8 k9)
