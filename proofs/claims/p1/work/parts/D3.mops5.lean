theorem c_X12_end {h : ma_H} {nx d : Nat} {n x : Int} {I : Nat → Int} {Q : Option ma_V → ma_H → Nat → Prop} (hM : h 73 = co 12 (mo I)) (e2 : I 2 = n) (hn : 0 ≤ n ∧ n ≤ 80) (rx : rg x) (K0 : ¬ (0 ≤ x ∧ x ≤ n) → Q (some (vi 0)) (ma_up h 73 (co 12 (mo (iu I 5 0)))) nx) (K1 : 0 ≤ x ∧ x ≤ n → Q (some (vi 1)) (ma_up h 73 (co 12 (mo (iu (iu I 5 0) 2 x)))) nx) : ma_Ct mX12_end (d + 1) 0 0 [vr 73, vi x] h nx Q := by
  refine ma_Ct.of (by decide +kernel) (Nat.le_of_ble_eq_true rfl) ?_
  refine ma_aload_n dX12_end_0 rfl ?_
  refine ma_iconst dX12_end_1 ?_
  refine ma_puti dX12_end_2 fX12_128 (by first | assumption | exact ma_up_s _ _ _ | exact (ma_up_n (by decide)).trans (by assumption) | exact (ma_up_n (by decide)).trans ((ma_up_n (by decide)).trans (by assumption))) (Nat.le_of_ble_eq_true rfl) ?_
  rw [mo_5]
  refine ma_iload_n dX12_end_5 rfl ?_
  refine ma_iconst dX12_end_6 ?_
  refine ma_aload_n dX12_end_7 rfl ?_
  refine ma_getf dX12_end_8 fX12_176 (by first | assumption | exact ma_up_s _ _ _ | exact (ma_up_n (by decide)).trans (by assumption) | exact (ma_up_n (by decide)).trans ((ma_up_n (by decide)).trans (by assumption))) (by rfl) ?_
  rw [iu_n (by decide), e2]
  refine ma_cS [_, _, _] dX12_end_11 wX12_in lX12_179 tX12_in (Nat.le_of_ble_eq_true rfl) ?_
  refine c_X12_in rx (by unfold rg; decide) (by unfold rg; omega) (fun z0 z1 => ?_) (fun z => ?_)
  · -- k1
    refine ma_rif_ne 19 dX12_end_14 rfl (by decide) (fun c14 => ?_) (fun c14 => absurd c14 (by decide))
    refine ma_aload_n dX12_end_19 rfl ?_
    refine ma_iload_n dX12_end_20 rfl ?_
    refine ma_puti dX12_end_21 fX12_176 (by first | assumption | exact ma_up_s _ _ _ | exact (ma_up_n (by decide)).trans (by assumption) | exact (ma_up_n (by decide)).trans ((ma_up_n (by decide)).trans (by assumption))) (Nat.le_of_ble_eq_true rfl) ?_
    rw [mo_2, ma_up_up]
    refine ma_iconst dX12_end_24 ?_
    exact ma_zret dX12_end_25 rfl (Or.inr rfl) (K1 ⟨z0, z1⟩)
  · -- k0
    refine ma_rif_ne 19 dX12_end_14 rfl (by decide) (fun c14 => absurd c14 (by decide)) (fun c14 => ?_)
    refine ma_iconst dX12_end_17 ?_
    exact ma_zret dX12_end_18 rfl (Or.inl rfl) (K0 z)
theorem c_X12_alike {h : ma_H} {nx d : Nat} {t : Int} {G Aa M0 : Int → Int} {I : Nat → Int} {Q : Option ma_V → ma_H → Nat → Prop} (hM : h 73 = co 12 (mo I)) (hS : SMO h) (h74 : h 74 = ci 33 Aa) (h85 : h 85 = ci 33 M0) (hG : VG t G) (hC : CN t G) (hA : AG t G Aa) (K : ∀ h' I' L ties, MP (ma_up (ma_up h 73 (co 12 (mo (iu I 5 0)))) 85 (ci 33 Aa)) h' 85 (iu I 5 0) I' → LI t G L (24 * t) ties → Q (some (vi ties)) h' nx) : ma_Ct mX12_alike (d + 4) 0 0 [vr 73] h nx Q := by
  refine ma_Ct.of (by decide +kernel) (Nat.le_of_ble_eq_true rfl) ?_
  refine ma_aload_n dX12_alike_0 rfl ?_
  refine ma_iconst dX12_alike_1 ?_
  refine ma_puti dX12_alike_2 fX12_128 (by first | assumption | exact ma_up_s _ _ _ | exact (ma_up_n (by decide)).trans (ma_up_s _ _ _) | exact hmp.2.1) (Nat.le_of_ble_eq_true rfl) ?_
  rw [mo_5]
  refine ma_aload_n dX12_alike_5 rfl ?_
  refine ma_getf dX12_alike_6 fX12_9 (by first | assumption | exact ma_up_s _ _ _ | exact (ma_up_n (by decide)).trans (ma_up_s _ _ _) | exact hmp.2.1) (by rfl) ?_
  refine ma_aload_n dX12_alike_9 rfl ?_
  refine ma_getf dX12_alike_10 fX12_45 (by first | assumption | exact ma_up_s _ _ _ | exact (ma_up_n (by decide)).trans (ma_up_s _ _ _) | exact hmp.2.1) (by rfl) ?_
  refine ma_cS [_, _] dX12_alike_13 wX12_lay lX12_168 tX12_lay (Nat.le_of_ble_eq_true rfl) ?_
  refine c_X12_lay ((ma_up_n (by decide)).trans h74) ((ma_up_n (by decide)).trans h85) (by decide) ?_
  refine ma_aload_n dX12_alike_16 rfl ?_
  refine ma_aload_n dX12_alike_17 rfl ?_
  refine ma_getf dX12_alike_18 fX12_45 (by first | assumption | exact ma_up_s _ _ _ | exact (ma_up_n (by decide)).trans (ma_up_s _ _ _) | exact hmp.2.1) (by rfl) ?_
  refine ma_cV [_] dX12_alike_21 wX12_number lX12_221 iX12_number sX12_number rfl (by first | assumption | exact ma_up_s _ _ _ | exact (ma_up_n (by decide)).trans (ma_up_s _ _ _) | exact hmp.2.1) (Nat.le_of_ble_eq_true rfl) ?_
  refine m_number ((ma_up_n (by decide)).trans (ma_up_s _ _ _)) (smo_n (by decide) (by decide) (smo_n (by decide) (by decide) hS)) (ma_up_s _ _ _) (by decide) (Or.inl (by decide)) hG hC hA (fun h' I' L La ties hmp hb ht hL hLa hLo => ?_)
  refine ma_pop dX12_alike_24 rfl ?_
  refine ma_aload_n dX12_alike_25 rfl ?_
  refine ma_getf dX12_alike_26 fX12_161 (by first | assumption | exact ma_up_s _ _ _ | exact (ma_up_n (by decide)).trans (ma_up_s _ _ _) | exact hmp.2.1) (by rfl) ?_
  rw [ht]
  exact ma_iret dX12_alike_29 rfl (K h' I' L ties hmp hL)
