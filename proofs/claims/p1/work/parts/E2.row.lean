theorem c_X12_row {h : ma_H} {nx d : Nat} {x n : Int} {I : Nat → Int} {f F0 R0 fi0 : Int → Int} {Q : Option ma_V → ma_H → Nat → Prop} (e4 : I 4 = n) (n0 : 0 ≤ n ∧ n ≤ 96) (rx : rg x) (K : 0 ≤ x ∧ x < n → Q (some (vl (f x))) (rh h (iu I 5 0) f F0 R0 fi0) nx) (K0 : ¬ (0 ≤ x ∧ x < n) → Q (some (vl (iw 0))) (rh h (iu (iu I 5 0) 5 1) f F0 R0 fi0) nx) : ma_Ct mX12_row (d + 1) 0 0 [vr 73, vi x] (rh h I f F0 R0 fi0) nx Q := by
  refine ma_Ct.of (by decide +kernel) (Nat.le_of_ble_eq_true rfl) ?_
  refine ma_aload_n dX12_row_0 rfl ?_
  refine ma_iconst dX12_row_1 ?_
  refine ma_puti dX12_row_2 fX12_128 (by first | exact rh_73 | exact rh_76) (Nat.le_of_ble_eq_true rfl) ?_
  rw [mo_5, rh_p]
  refine ma_iload_n dX12_row_5 rfl ?_
  refine ma_iconst dX12_row_6 ?_
  refine ma_aload_n dX12_row_7 rfl ?_
  refine ma_getf dX12_row_8 fX12_132 (by first | exact rh_73 | exact rh_76) (by rfl) ?_
  rw [iu_n (by decide), e4]
  refine ma_iconst dX12_row_11 ?_
  refine ma_isub dX12_row_12 ?_
  refine ma_cS [_, _, _] dX12_row_13 wX12_in lX12_179 tX12_in (Nat.le_of_ble_eq_true rfl) ?_
  refine c_X12_in rx (by unfold rg; decide) (by unfold rg; omega) (fun z0 z1 => ?_) (fun z => ?_)
  · -- k1
    refine ma_rif_eq 28 dX12_row_16 rfl (by decide) (fun c16 => absurd c16 (by decide)) (fun c16 => ?_)
    refine ma_aload_n dX12_row_19 rfl ?_
    refine ma_getf dX12_row_20 fX12_17 (by first | exact rh_73 | exact rh_76) (by rfl) ?_
    refine ma_iload_n dX12_row_23 rfl ?_
    refine ma_lald dX12_row_24 (by first | exact rh_73 | exact rh_76) (by omega) (by omega) (by omega) ?_
    refine ma_goto 33 dX12_row_25 rfl ?_
    exact ma_lret dX12_row_33 rfl (K ⟨z0, by omega⟩)
  · -- k0
    refine ma_rif_eq 28 dX12_row_16 rfl (by decide) (fun c16 => ?_) (fun c16 => absurd c16 (by decide))
    refine ma_aload_n dX12_row_28 rfl ?_
    refine ma_cV [] dX12_row_29 wX12_lost lX12_228 iX12_lost sX12_lost rfl (by first | exact rh_73 | exact rh_76) (Nat.le_of_ble_eq_true rfl) ?_
    refine c_X12_lost rh_73 ?_
    rw [rh_p]
    refine ma_i2l dX12_row_32 ?_
    exact ma_lret dX12_row_33 rfl (K0 (fun y => z ⟨y.1, by omega⟩))
