theorem c_X12_forget {h : ma_H} {nx d : Nat} {I : Nat → Int} {Q : Option ma_V → ma_H → Nat → Prop} (hM : h 73 = co 12 (mo I)) (K : Q (some (vi (I 59))) (ma_up h 73 (co 12 (mo (iu (iu I 5 0) 59 0)))) nx) : ma_Ct mX12_forget d 0 0 [vr 73] h nx Q := by
  refine ma_Ct.of (by decide +kernel) (Nat.le_of_ble_eq_true rfl) ?_
  refine ma_aload_n dX12_forget_0 rfl ?_
  refine ma_iconst dX12_forget_1 ?_
  refine ma_puti dX12_forget_2 fX12_128 (by first | assumption | exact ma_up_s _ _ _ | exact (ma_up_n (by decide)).trans (by assumption) | exact (ma_up_n (by decide)).trans ((ma_up_n (by decide)).trans (by assumption))) (Nat.le_of_ble_eq_true rfl) ?_
  rw [mo_5]
  refine ma_aload_n dX12_forget_5 rfl ?_
  refine ma_getf dX12_forget_6 fX12_498 (by first | assumption | exact ma_up_s _ _ _ | exact (ma_up_n (by decide)).trans (by assumption) | exact (ma_up_n (by decide)).trans ((ma_up_n (by decide)).trans (by assumption))) (by rfl) ?_
  refine ma_istore_nN dX12_forget_9 (by decide) rfl ?_
  refine ma_aload_n dX12_forget_10 rfl ?_
  refine ma_iconst dX12_forget_11 ?_
  refine ma_puti dX12_forget_12 fX12_498 (by first | assumption | exact ma_up_s _ _ _ | exact (ma_up_n (by decide)).trans (by assumption) | exact (ma_up_n (by decide)).trans ((ma_up_n (by decide)).trans (by assumption))) (Nat.le_of_ble_eq_true rfl) ?_
  rw [mo_59, ma_up_up]
  refine ma_iload_n dX12_forget_15 rfl ?_
  exact ma_iret dX12_forget_16 rfl K
theorem c_X11_count {h : ma_H} {nx d : Nat} {t q0 x s n sz l : Int} {r1 r2 r3 r4 r5 r6 r7 r8 : ma_V} {G : Int → Int} {Q : Option ma_V → ma_H → Nat → Prop} (hx : h 0 = co 11 (xo q0)) (h1 : h 1 = co 8 [vi t, vr 2]) (h2 : h 2 = ci 32 G) (hG : VG t G) (h13 : h 13 = co 3 [vi s, r1, r2]) (h36 : h 36 = co 4 [vi n, r3, r4]) (h31 : h 31 = co 9 [vi sz, r5]) (h33 : h 33 = co 5 [vi l, r6, r7, r8]) (rx : rg x) (K : Q (some (vi (if x = 0 then t else if x = 1 then ct (fun j => G j < 0) (4 * t).toNat else if x = 2 then s else if x = 3 then n else if x = 4 then sz else if x = 5 then l else -1))) h nx) : ma_Ct mX11_count (d + 1) 0 0 [vr 0, vi x] h nx Q := by
  have ht := hG.1
  unfold rg at rx
  refine ma_Ct.of (by decide +kernel) (Nat.le_of_ble_eq_true rfl) ?_
  refine ma_iload_n dX11_count_0 rfl ?_
  rcases (show (x < 0 ∨ 5 < x) ∨ x = 0 ∨ x = 1 ∨ x = 2 ∨ x = 3 ∨ x = 4 ∨ x = 5 by omega) with sw1 | sw1 | sw1 | sw1 | sw1 | sw1 | sw1
  · -- default
    refine ma_tableOut 88 dX11_count_1 (by rw [iw_of (by omega) (by omega)]; omega) rfl ?_
    refine ma_iconst dX11_count_88 ?_
    rw [if_neg (by omega), if_neg (by omega), if_neg (by omega), if_neg (by omega), if_neg (by omega), if_neg (by omega)] at K
    exact ma_iret dX11_count_89 rfl K
  · -- case 0
    refine ma_tableIn 40 dX11_count_1 (by rw [iw_of (by omega) (by omega)]; omega) (by rw [iw_of (by omega) (by omega)]; omega) (by rw [iw_of (by omega) (by omega)]; rw [sw1]; rfl) rfl ?_
    refine ma_aload_n dX11_count_40 rfl ?_
    refine ma_getf dX11_count_41 fX11_10 (by first | assumption | exact ma_up_s _ _ _ | exact (ma_up_n (by decide)).trans (by assumption) | exact (ma_up_n (by decide)).trans ((ma_up_n (by decide)).trans (by assumption))) (by rfl) ?_
    refine ma_getf dX11_count_44 fX11_123 (by first | assumption | exact ma_up_s _ _ _ | exact (ma_up_n (by decide)).trans (by assumption) | exact (ma_up_n (by decide)).trans ((ma_up_n (by decide)).trans (by assumption))) (by rfl) ?_
    rw [sw1, if_pos rfl] at K
    exact ma_iret dX11_count_47 rfl K
  · -- case 1
    refine ma_tableIn 48 dX11_count_1 (by rw [iw_of (by omega) (by omega)]; omega) (by rw [iw_of (by omega) (by omega)]; omega) (by rw [iw_of (by omega) (by omega)]; rw [sw1]; rfl) rfl ?_
    refine ma_aload_n dX11_count_48 rfl ?_
    refine ma_getf dX11_count_49 fX11_10 (by first | assumption | exact ma_up_s _ _ _ | exact (ma_up_n (by decide)).trans (by assumption) | exact (ma_up_n (by decide)).trans ((ma_up_n (by decide)).trans (by assumption))) (by rfl) ?_
    refine ma_cV [] dX11_count_52 wX8_freeFaces lX11_162 iX8_freeFaces sX8_freeFaces rfl (by first | assumption | exact ma_up_s _ _ _ | exact (ma_up_n (by decide)).trans (by assumption) | exact (ma_up_n (by decide)).trans ((ma_up_n (by decide)).trans (by assumption))) (Nat.le_of_ble_eq_true rfl) ?_
    refine c_X8_freeFaces h1 h2 (by omega) (fun j j0 j1 => by have := vg_in hG j0 j1; unfold rg; omega) ?_
    rw [nc_ct]
    rw [sw1, if_neg (by decide), if_pos rfl] at K
    exact ma_iret dX11_count_55 rfl K
  · -- case 2
    refine ma_tableIn 56 dX11_count_1 (by rw [iw_of (by omega) (by omega)]; omega) (by rw [iw_of (by omega) (by omega)]; omega) (by rw [iw_of (by omega) (by omega)]; rw [sw1]; rfl) rfl ?_
    refine ma_aload_n dX11_count_56 rfl ?_
    refine ma_getf dX11_count_57 fX11_33 (by first | assumption | exact ma_up_s _ _ _ | exact (ma_up_n (by decide)).trans (by assumption) | exact (ma_up_n (by decide)).trans ((ma_up_n (by decide)).trans (by assumption))) (by rfl) ?_
    refine ma_getf dX11_count_60 fX11_318 (by first | assumption | exact ma_up_s _ _ _ | exact (ma_up_n (by decide)).trans (by assumption) | exact (ma_up_n (by decide)).trans ((ma_up_n (by decide)).trans (by assumption))) (by rfl) ?_
    rw [sw1, if_neg (by decide), if_neg (by decide), if_pos rfl] at K
    exact ma_iret dX11_count_63 rfl K
  · -- case 3
    refine ma_tableIn 64 dX11_count_1 (by rw [iw_of (by omega) (by omega)]; omega) (by rw [iw_of (by omega) (by omega)]; omega) (by rw [iw_of (by omega) (by omega)]; rw [sw1]; rfl) rfl ?_
    refine ma_aload_n dX11_count_64 rfl ?_
    refine ma_getf dX11_count_65 fX11_54 (by first | assumption | exact ma_up_s _ _ _ | exact (ma_up_n (by decide)).trans (by assumption) | exact (ma_up_n (by decide)).trans ((ma_up_n (by decide)).trans (by assumption))) (by rfl) ?_
    refine ma_getf dX11_count_68 fX11_313 (by first | assumption | exact ma_up_s _ _ _ | exact (ma_up_n (by decide)).trans (by assumption) | exact (ma_up_n (by decide)).trans ((ma_up_n (by decide)).trans (by assumption))) (by rfl) ?_
    rw [sw1, if_neg (by decide), if_neg (by decide), if_neg (by decide), if_pos rfl] at K
    exact ma_iret dX11_count_71 rfl K
  · -- case 4
    refine ma_tableIn 72 dX11_count_1 (by rw [iw_of (by omega) (by omega)]; omega) (by rw [iw_of (by omega) (by omega)]; omega) (by rw [iw_of (by omega) (by omega)]; rw [sw1]; rfl) rfl ?_
    refine ma_aload_n dX11_count_72 rfl ?_
    refine ma_getf dX11_count_73 fX11_40 (by first | assumption | exact ma_up_s _ _ _ | exact (ma_up_n (by decide)).trans (by assumption) | exact (ma_up_n (by decide)).trans ((ma_up_n (by decide)).trans (by assumption))) (by rfl) ?_
    refine ma_getf dX11_count_76 fX11_151 (by first | assumption | exact ma_up_s _ _ _ | exact (ma_up_n (by decide)).trans (by assumption) | exact (ma_up_n (by decide)).trans ((ma_up_n (by decide)).trans (by assumption))) (by rfl) ?_
    rw [sw1, if_neg (by decide), if_neg (by decide), if_neg (by decide), if_neg (by decide), if_pos rfl] at K
    exact ma_iret dX11_count_79 rfl K
  · -- case 5
    refine ma_tableIn 80 dX11_count_1 (by rw [iw_of (by omega) (by omega)]; omega) (by rw [iw_of (by omega) (by omega)]; omega) (by rw [iw_of (by omega) (by omega)]; rw [sw1]; rfl) rfl ?_
    refine ma_aload_n dX11_count_80 rfl ?_
    refine ma_getf dX11_count_81 fX11_47 (by first | assumption | exact ma_up_s _ _ _ | exact (ma_up_n (by decide)).trans (by assumption) | exact (ma_up_n (by decide)).trans ((ma_up_n (by decide)).trans (by assumption))) (by rfl) ?_
    refine ma_getf dX11_count_84 fX11_319 (by first | assumption | exact ma_up_s _ _ _ | exact (ma_up_n (by decide)).trans (by assumption) | exact (ma_up_n (by decide)).trans ((ma_up_n (by decide)).trans (by assumption))) (by rfl) ?_
    rw [sw1, if_neg (by decide), if_neg (by decide), if_neg (by decide), if_neg (by decide), if_neg (by decide), if_pos rfl] at K
    exact ma_iret dX11_count_87 rfl K
theorem c_X12_count {h : ma_H} {nx d : Nat} {t x : Int} {G Aa : Int → Int} {I : Nat → Int} {Q : Option ma_V → ma_H → Nat → Prop} (hM : h 73 = co 12 (mo I)) (h74 : h 74 = ci 33 Aa) (hG : VG t G) (hA : AG t G Aa) (rx : rg x) (K : Q (some (vi (if x = 0 then t else if x = 1 then ct (fun j => G j < 0) (4 * t).toNat else if x = 2 then I 40 else if x = 3 then I 59 else if x = 4 then I 4 else if x = 5 then I 2 else -1))) (ma_up h 73 (co 12 (mo (iu I 5 0)))) nx) : ma_Ct mX12_count (d + 1) 0 0 [vr 73, vi x] h nx Q := by
  have ht := hG.1
  unfold rg at rx
  refine ma_Ct.of (by decide +kernel) (Nat.le_of_ble_eq_true rfl) ?_
  refine ma_aload_n dX12_count_0 rfl ?_
  refine ma_iconst dX12_count_1 ?_
  refine ma_puti dX12_count_2 fX12_128 (by first | assumption | exact ma_up_s _ _ _ | exact (ma_up_n (by decide)).trans (by assumption) | exact (ma_up_n (by decide)).trans ((ma_up_n (by decide)).trans (by assumption))) (Nat.le_of_ble_eq_true rfl) ?_
  rw [mo_5]
  refine ma_iload_n dX12_count_5 rfl ?_
  rcases (show (x < 0 ∨ 5 < x) ∨ x = 0 ∨ x = 1 ∨ x = 2 ∨ x = 3 ∨ x = 4 ∨ x = 5 by omega) with sw6 | sw6 | sw6 | sw6 | sw6 | sw6 | sw6
  · -- default
    refine ma_tableOut 79 dX12_count_6 (by rw [iw_of (by omega) (by omega)]; omega) rfl ?_
    refine ma_iconst dX12_count_79 ?_
    rw [if_neg (by omega), if_neg (by omega), if_neg (by omega), if_neg (by omega), if_neg (by omega), if_neg (by omega)] at K
    exact ma_iret dX12_count_80 rfl K
  · -- case 0
    refine ma_tableIn 44 dX12_count_6 (by rw [iw_of (by omega) (by omega)]; omega) (by rw [iw_of (by omega) (by omega)]; omega) (by rw [iw_of (by omega) (by omega)]; rw [sw6]; rfl) rfl ?_
    refine ma_aload_n dX12_count_44 rfl ?_
    refine ma_getf dX12_count_45 fX12_9 (by first | assumption | exact ma_up_s _ _ _ | exact (ma_up_n (by decide)).trans (by assumption) | exact (ma_up_n (by decide)).trans ((ma_up_n (by decide)).trans (by assumption))) (by rfl) ?_
    refine ma_iconst dX12_count_48 ?_
    refine ma_iald dX12_count_49 (by first | assumption | exact ma_up_s _ _ _ | exact (ma_up_n (by decide)).trans (by assumption) | exact (ma_up_n (by decide)).trans ((ma_up_n (by decide)).trans (by assumption))) (by omega) (by omega) (by omega) ?_
    rw [hA.1]
    rw [sw6, if_pos rfl] at K
    exact ma_iret dX12_count_50 rfl K
  · -- case 1
    refine ma_tableIn 51 dX12_count_6 (by rw [iw_of (by omega) (by omega)]; omega) (by rw [iw_of (by omega) (by omega)]; omega) (by rw [iw_of (by omega) (by omega)]; rw [sw6]; rfl) rfl ?_
    refine ma_aload_n dX12_count_51 rfl ?_
    refine ma_getf dX12_count_52 fX12_9 (by first | assumption | exact ma_up_s _ _ _ | exact (ma_up_n (by decide)).trans (by assumption) | exact (ma_up_n (by decide)).trans ((ma_up_n (by decide)).trans (by assumption))) (by rfl) ?_
    refine ma_cS [_] dX12_count_55 wX12_freeMany lX12_235 tX12_freeMany (Nat.le_of_ble_eq_true rfl) ?_
    refine c_X12_freeMany ((ma_up_n (by decide)).trans h74) hG hA ?_
    rw [sw6, if_neg (by decide), if_pos rfl] at K
    exact ma_iret dX12_count_58 rfl K
  · -- case 2
    refine ma_tableIn 59 dX12_count_6 (by rw [iw_of (by omega) (by omega)]; omega) (by rw [iw_of (by omega) (by omega)]; omega) (by rw [iw_of (by omega) (by omega)]; rw [sw6]; rfl) rfl ?_
    refine ma_aload_n dX12_count_59 rfl ?_
    refine ma_getf dX12_count_60 fX12_437 (by first | assumption | exact ma_up_s _ _ _ | exact (ma_up_n (by decide)).trans (by assumption) | exact (ma_up_n (by decide)).trans ((ma_up_n (by decide)).trans (by assumption))) (by rfl) ?_
    rw [sw6, if_neg (by decide), if_neg (by decide), if_pos rfl] at K
    exact ma_iret dX12_count_63 rfl K
  · -- case 3
    refine ma_tableIn 64 dX12_count_6 (by rw [iw_of (by omega) (by omega)]; omega) (by rw [iw_of (by omega) (by omega)]; omega) (by rw [iw_of (by omega) (by omega)]; rw [sw6]; rfl) rfl ?_
    refine ma_aload_n dX12_count_64 rfl ?_
    refine ma_getf dX12_count_65 fX12_498 (by first | assumption | exact ma_up_s _ _ _ | exact (ma_up_n (by decide)).trans (by assumption) | exact (ma_up_n (by decide)).trans ((ma_up_n (by decide)).trans (by assumption))) (by rfl) ?_
    rw [sw6, if_neg (by decide), if_neg (by decide), if_neg (by decide), if_pos rfl] at K
    exact ma_iret dX12_count_68 rfl K
  · -- case 4
    refine ma_tableIn 69 dX12_count_6 (by rw [iw_of (by omega) (by omega)]; omega) (by rw [iw_of (by omega) (by omega)]; omega) (by rw [iw_of (by omega) (by omega)]; rw [sw6]; rfl) rfl ?_
    refine ma_aload_n dX12_count_69 rfl ?_
    refine ma_getf dX12_count_70 fX12_132 (by first | assumption | exact ma_up_s _ _ _ | exact (ma_up_n (by decide)).trans (by assumption) | exact (ma_up_n (by decide)).trans ((ma_up_n (by decide)).trans (by assumption))) (by rfl) ?_
    rw [sw6, if_neg (by decide), if_neg (by decide), if_neg (by decide), if_neg (by decide), if_pos rfl] at K
    exact ma_iret dX12_count_73 rfl K
  · -- case 5
    refine ma_tableIn 74 dX12_count_6 (by rw [iw_of (by omega) (by omega)]; omega) (by rw [iw_of (by omega) (by omega)]; omega) (by rw [iw_of (by omega) (by omega)]; rw [sw6]; rfl) rfl ?_
    refine ma_aload_n dX12_count_74 rfl ?_
    refine ma_getf dX12_count_75 fX12_176 (by first | assumption | exact ma_up_s _ _ _ | exact (ma_up_n (by decide)).trans (by assumption) | exact (ma_up_n (by decide)).trans ((ma_up_n (by decide)).trans (by assumption))) (by rfl) ?_
    rw [sw6, if_neg (by decide), if_neg (by decide), if_neg (by decide), if_neg (by decide), if_neg (by decide), if_pos rfl] at K
    exact ma_iret dX12_count_78 rfl K
