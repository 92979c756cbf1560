theorem c_X12_goes {h : ma_H} {nx d : Nat} {t a b c e g : Int} {go gl : Int → Int} {Q : Option ma_V → ma_H → Nat → Prop} {I : Nat → Int} (hM : h 73 = co 12 (mo I)) (h92 : h 92 = ci 4 go) (h93 : h 93 = ci 16 gl) (hg : I 32 = g) (g0 : 0 ≤ g ∧ g < 4) (K : Q none (ma_up (ma_up (ma_up h 92 (ci 4 (uf go g t))) 93 (ci 16 (uf (uf (uf (uf gl (4 * g) a) (4 * g + 1) b) (4 * g + 2) c) (4 * g + 3) e))) 73 (co 12 (mo (iu I 32 (g + 1))))) nx) : ma_Ct mX12_goes d 0 0 [vr 73, vi t, vi a, vi b, vi c, vi e] h nx Q := by
  subst hg
  refine ma_Ct.of (by decide +kernel) (Nat.le_of_ble_eq_true rfl) ?_
  refine ma_aload_n dX12_goes_0 rfl ?_
  refine ma_getf dX12_goes_1 fX12_66 (by first | assumption | exact ma_up_s _ _ _ | exact (ma_up_n (by first | decide | omega | assumption)).trans (ma_up_s _ _ _) | exact (ma_up_n (by first | decide | omega | assumption)).trans (by assumption) | exact (ma_up_n (by first | decide | omega | assumption)).trans ((ma_up_n (by first | decide | omega | assumption)).trans (ma_up_s _ _ _)) | exact (ma_up_n (by first | decide | omega | assumption)).trans ((ma_up_n (by first | decide | omega | assumption)).trans (by assumption))) (by rfl) ?_
  refine ma_aload_n dX12_goes_4 rfl ?_
  refine ma_getf dX12_goes_5 fX12_378 (by first | assumption | exact ma_up_s _ _ _ | exact (ma_up_n (by first | decide | omega | assumption)).trans (ma_up_s _ _ _) | exact (ma_up_n (by first | decide | omega | assumption)).trans (by assumption) | exact (ma_up_n (by first | decide | omega | assumption)).trans ((ma_up_n (by first | decide | omega | assumption)).trans (ma_up_s _ _ _)) | exact (ma_up_n (by first | decide | omega | assumption)).trans ((ma_up_n (by first | decide | omega | assumption)).trans (by assumption))) (by rfl) ?_
  refine ma_iload_n dX12_goes_8 rfl ?_
  refine ma_iast dX12_goes_9 (by first | assumption | exact ma_up_s _ _ _ | exact (ma_up_n (by first | decide | omega | assumption)).trans (ma_up_s _ _ _) | exact (ma_up_n (by first | decide | omega | assumption)).trans (by assumption) | exact (ma_up_n (by first | decide | omega | assumption)).trans ((ma_up_n (by first | decide | omega | assumption)).trans (ma_up_s _ _ _)) | exact (ma_up_n (by first | decide | omega | assumption)).trans ((ma_up_n (by first | decide | omega | assumption)).trans (by assumption))) (by omega) (by omega) (by omega) ?_
  refine ma_aload_n dX12_goes_10 rfl ?_
  refine ma_getf dX12_goes_11 fX12_69 (by first | assumption | exact ma_up_s _ _ _ | exact (ma_up_n (by first | decide | omega | assumption)).trans (ma_up_s _ _ _) | exact (ma_up_n (by first | decide | omega | assumption)).trans (by assumption) | exact (ma_up_n (by first | decide | omega | assumption)).trans ((ma_up_n (by first | decide | omega | assumption)).trans (ma_up_s _ _ _)) | exact (ma_up_n (by first | decide | omega | assumption)).trans ((ma_up_n (by first | decide | omega | assumption)).trans (by assumption))) (by rfl) ?_
  refine ma_iconst dX12_goes_14 ?_
  refine ma_aload_n dX12_goes_15 rfl ?_
  refine ma_getf dX12_goes_16 fX12_378 (by first | assumption | exact ma_up_s _ _ _ | exact (ma_up_n (by first | decide | omega | assumption)).trans (ma_up_s _ _ _) | exact (ma_up_n (by first | decide | omega | assumption)).trans (by assumption) | exact (ma_up_n (by first | decide | omega | assumption)).trans ((ma_up_n (by first | decide | omega | assumption)).trans (ma_up_s _ _ _)) | exact (ma_up_n (by first | decide | omega | assumption)).trans ((ma_up_n (by first | decide | omega | assumption)).trans (by assumption))) (by rfl) ?_
  refine ma_imul dX12_goes_19 ?_
  refine ma_iload_n dX12_goes_20 rfl ?_
  refine ma_iast dX12_goes_21 (by first | assumption | exact ma_up_s _ _ _ | exact (ma_up_n (by first | decide | omega | assumption)).trans (ma_up_s _ _ _) | exact (ma_up_n (by first | decide | omega | assumption)).trans (by assumption) | exact (ma_up_n (by first | decide | omega | assumption)).trans ((ma_up_n (by first | decide | omega | assumption)).trans (ma_up_s _ _ _)) | exact (ma_up_n (by first | decide | omega | assumption)).trans ((ma_up_n (by first | decide | omega | assumption)).trans (by assumption))) (by omega) (by omega) (by omega) ?_
  refine ma_aload_n dX12_goes_22 rfl ?_
  refine ma_getf dX12_goes_23 fX12_69 (by first | assumption | exact ma_up_s _ _ _ | exact (ma_up_n (by first | decide | omega | assumption)).trans (ma_up_s _ _ _) | exact (ma_up_n (by first | decide | omega | assumption)).trans (by assumption) | exact (ma_up_n (by first | decide | omega | assumption)).trans ((ma_up_n (by first | decide | omega | assumption)).trans (ma_up_s _ _ _)) | exact (ma_up_n (by first | decide | omega | assumption)).trans ((ma_up_n (by first | decide | omega | assumption)).trans (by assumption))) (by rfl) ?_
  refine ma_iconst dX12_goes_26 ?_
  refine ma_aload_n dX12_goes_27 rfl ?_
  refine ma_getf dX12_goes_28 fX12_378 (by first | assumption | exact ma_up_s _ _ _ | exact (ma_up_n (by first | decide | omega | assumption)).trans (ma_up_s _ _ _) | exact (ma_up_n (by first | decide | omega | assumption)).trans (by assumption) | exact (ma_up_n (by first | decide | omega | assumption)).trans ((ma_up_n (by first | decide | omega | assumption)).trans (ma_up_s _ _ _)) | exact (ma_up_n (by first | decide | omega | assumption)).trans ((ma_up_n (by first | decide | omega | assumption)).trans (by assumption))) (by rfl) ?_
  refine ma_imul dX12_goes_31 ?_
  refine ma_iconst dX12_goes_32 ?_
  refine ma_iadd dX12_goes_33 ?_
  refine ma_iload_n dX12_goes_34 rfl ?_
  refine ma_iast dX12_goes_35 (by first | assumption | exact ma_up_s _ _ _ | exact (ma_up_n (by first | decide | omega | assumption)).trans (ma_up_s _ _ _) | exact (ma_up_n (by first | decide | omega | assumption)).trans (by assumption) | exact (ma_up_n (by first | decide | omega | assumption)).trans ((ma_up_n (by first | decide | omega | assumption)).trans (ma_up_s _ _ _)) | exact (ma_up_n (by first | decide | omega | assumption)).trans ((ma_up_n (by first | decide | omega | assumption)).trans (by assumption))) (by omega) (by omega) (by omega) ?_
  rw [ma_up_up]
  refine ma_aload_n dX12_goes_36 rfl ?_
  refine ma_getf dX12_goes_37 fX12_69 (by first | assumption | exact ma_up_s _ _ _ | exact (ma_up_n (by first | decide | omega | assumption)).trans (ma_up_s _ _ _) | exact (ma_up_n (by first | decide | omega | assumption)).trans (by assumption) | exact (ma_up_n (by first | decide | omega | assumption)).trans ((ma_up_n (by first | decide | omega | assumption)).trans (ma_up_s _ _ _)) | exact (ma_up_n (by first | decide | omega | assumption)).trans ((ma_up_n (by first | decide | omega | assumption)).trans (by assumption))) (by rfl) ?_
  refine ma_iconst dX12_goes_40 ?_
  refine ma_aload_n dX12_goes_41 rfl ?_
  refine ma_getf dX12_goes_42 fX12_378 (by first | assumption | exact ma_up_s _ _ _ | exact (ma_up_n (by first | decide | omega | assumption)).trans (ma_up_s _ _ _) | exact (ma_up_n (by first | decide | omega | assumption)).trans (by assumption) | exact (ma_up_n (by first | decide | omega | assumption)).trans ((ma_up_n (by first | decide | omega | assumption)).trans (ma_up_s _ _ _)) | exact (ma_up_n (by first | decide | omega | assumption)).trans ((ma_up_n (by first | decide | omega | assumption)).trans (by assumption))) (by rfl) ?_
  refine ma_imul dX12_goes_45 ?_
  refine ma_iconst dX12_goes_46 ?_
  refine ma_iadd dX12_goes_47 ?_
  refine ma_iload dX12_goes_48 rfl ?_
  refine ma_iast dX12_goes_50 (by first | assumption | exact ma_up_s _ _ _ | exact (ma_up_n (by first | decide | omega | assumption)).trans (ma_up_s _ _ _) | exact (ma_up_n (by first | decide | omega | assumption)).trans (by assumption) | exact (ma_up_n (by first | decide | omega | assumption)).trans ((ma_up_n (by first | decide | omega | assumption)).trans (ma_up_s _ _ _)) | exact (ma_up_n (by first | decide | omega | assumption)).trans ((ma_up_n (by first | decide | omega | assumption)).trans (by assumption))) (by omega) (by omega) (by omega) ?_
  rw [ma_up_up]
  refine ma_aload_n dX12_goes_51 rfl ?_
  refine ma_getf dX12_goes_52 fX12_69 (by first | assumption | exact ma_up_s _ _ _ | exact (ma_up_n (by first | decide | omega | assumption)).trans (ma_up_s _ _ _) | exact (ma_up_n (by first | decide | omega | assumption)).trans (by assumption) | exact (ma_up_n (by first | decide | omega | assumption)).trans ((ma_up_n (by first | decide | omega | assumption)).trans (ma_up_s _ _ _)) | exact (ma_up_n (by first | decide | omega | assumption)).trans ((ma_up_n (by first | decide | omega | assumption)).trans (by assumption))) (by rfl) ?_
  refine ma_iconst dX12_goes_55 ?_
  refine ma_aload_n dX12_goes_56 rfl ?_
  refine ma_getf dX12_goes_57 fX12_378 (by first | assumption | exact ma_up_s _ _ _ | exact (ma_up_n (by first | decide | omega | assumption)).trans (ma_up_s _ _ _) | exact (ma_up_n (by first | decide | omega | assumption)).trans (by assumption) | exact (ma_up_n (by first | decide | omega | assumption)).trans ((ma_up_n (by first | decide | omega | assumption)).trans (ma_up_s _ _ _)) | exact (ma_up_n (by first | decide | omega | assumption)).trans ((ma_up_n (by first | decide | omega | assumption)).trans (by assumption))) (by rfl) ?_
  refine ma_imul dX12_goes_60 ?_
  refine ma_iconst dX12_goes_61 ?_
  refine ma_iadd dX12_goes_62 ?_
  refine ma_iload dX12_goes_63 rfl ?_
  refine ma_iast dX12_goes_65 (by first | assumption | exact ma_up_s _ _ _ | exact (ma_up_n (by first | decide | omega | assumption)).trans (ma_up_s _ _ _) | exact (ma_up_n (by first | decide | omega | assumption)).trans (by assumption) | exact (ma_up_n (by first | decide | omega | assumption)).trans ((ma_up_n (by first | decide | omega | assumption)).trans (ma_up_s _ _ _)) | exact (ma_up_n (by first | decide | omega | assumption)).trans ((ma_up_n (by first | decide | omega | assumption)).trans (by assumption))) (by omega) (by omega) (by omega) ?_
  rw [ma_up_up]
  refine ma_aload_n dX12_goes_66 rfl ?_
  refine ma_dup dX12_goes_67 rfl ?_
  refine ma_getf dX12_goes_68 fX12_378 (by first | assumption | exact ma_up_s _ _ _ | exact (ma_up_n (by first | decide | omega | assumption)).trans (ma_up_s _ _ _) | exact (ma_up_n (by first | decide | omega | assumption)).trans (by assumption) | exact (ma_up_n (by first | decide | omega | assumption)).trans ((ma_up_n (by first | decide | omega | assumption)).trans (ma_up_s _ _ _)) | exact (ma_up_n (by first | decide | omega | assumption)).trans ((ma_up_n (by first | decide | omega | assumption)).trans (by assumption))) (by rfl) ?_
  refine ma_iconst dX12_goes_71 ?_
  refine ma_iadd dX12_goes_72 ?_
  refine ma_puti dX12_goes_73 fX12_378 (by first | assumption | exact ma_up_s _ _ _ | exact (ma_up_n (by first | decide | omega | assumption)).trans (ma_up_s _ _ _) | exact (ma_up_n (by first | decide | omega | assumption)).trans (by assumption) | exact (ma_up_n (by first | decide | omega | assumption)).trans ((ma_up_n (by first | decide | omega | assumption)).trans (ma_up_s _ _ _)) | exact (ma_up_n (by first | decide | omega | assumption)).trans ((ma_up_n (by first | decide | omega | assumption)).trans (by assumption))) (Nat.le_of_ble_eq_true rfl) ?_
  rw [mo_32]
  exact ma_vret dX12_goes_76 rfl K
theorem c_X12_arrives {h : ma_H} {nx d : Nat} {a b c e g : Int} {cl : Int → Int} {Q : Option ma_V → ma_H → Nat → Prop} {I : Nat → Int} (hM : h 73 = co 12 (mo I)) (h94 : h 94 = ci 16 cl) (hg : I 34 = g) (g0 : 0 ≤ g ∧ g < 4) (K : Q none (ma_up (ma_up h 94 (ci 16 (uf (uf (uf (uf cl (4 * g) a) (4 * g + 1) b) (4 * g + 2) c) (4 * g + 3) e))) 73 (co 12 (mo (iu I 34 (g + 1))))) nx) : ma_Ct mX12_arrives d 0 0 [vr 73, vi a, vi b, vi c, vi e] h nx Q := by
  subst hg
  refine ma_Ct.of (by decide +kernel) (Nat.le_of_ble_eq_true rfl) ?_
  refine ma_aload_n dX12_arrives_0 rfl ?_
  refine ma_getf dX12_arrives_1 fX12_72 (by first | assumption | exact ma_up_s _ _ _ | exact (ma_up_n (by first | decide | omega | assumption)).trans (ma_up_s _ _ _) | exact (ma_up_n (by first | decide | omega | assumption)).trans (by assumption) | exact (ma_up_n (by first | decide | omega | assumption)).trans ((ma_up_n (by first | decide | omega | assumption)).trans (ma_up_s _ _ _)) | exact (ma_up_n (by first | decide | omega | assumption)).trans ((ma_up_n (by first | decide | omega | assumption)).trans (by assumption))) (by rfl) ?_
  refine ma_iconst dX12_arrives_4 ?_
  refine ma_aload_n dX12_arrives_5 rfl ?_
  refine ma_getf dX12_arrives_6 fX12_381 (by first | assumption | exact ma_up_s _ _ _ | exact (ma_up_n (by first | decide | omega | assumption)).trans (ma_up_s _ _ _) | exact (ma_up_n (by first | decide | omega | assumption)).trans (by assumption) | exact (ma_up_n (by first | decide | omega | assumption)).trans ((ma_up_n (by first | decide | omega | assumption)).trans (ma_up_s _ _ _)) | exact (ma_up_n (by first | decide | omega | assumption)).trans ((ma_up_n (by first | decide | omega | assumption)).trans (by assumption))) (by rfl) ?_
  refine ma_imul dX12_arrives_9 ?_
  refine ma_iload_n dX12_arrives_10 rfl ?_
  refine ma_iast dX12_arrives_11 (by first | assumption | exact ma_up_s _ _ _ | exact (ma_up_n (by first | decide | omega | assumption)).trans (ma_up_s _ _ _) | exact (ma_up_n (by first | decide | omega | assumption)).trans (by assumption) | exact (ma_up_n (by first | decide | omega | assumption)).trans ((ma_up_n (by first | decide | omega | assumption)).trans (ma_up_s _ _ _)) | exact (ma_up_n (by first | decide | omega | assumption)).trans ((ma_up_n (by first | decide | omega | assumption)).trans (by assumption))) (by omega) (by omega) (by omega) ?_
  refine ma_aload_n dX12_arrives_12 rfl ?_
  refine ma_getf dX12_arrives_13 fX12_72 (by first | assumption | exact ma_up_s _ _ _ | exact (ma_up_n (by first | decide | omega | assumption)).trans (ma_up_s _ _ _) | exact (ma_up_n (by first | decide | omega | assumption)).trans (by assumption) | exact (ma_up_n (by first | decide | omega | assumption)).trans ((ma_up_n (by first | decide | omega | assumption)).trans (ma_up_s _ _ _)) | exact (ma_up_n (by first | decide | omega | assumption)).trans ((ma_up_n (by first | decide | omega | assumption)).trans (by assumption))) (by rfl) ?_
  refine ma_iconst dX12_arrives_16 ?_
  refine ma_aload_n dX12_arrives_17 rfl ?_
  refine ma_getf dX12_arrives_18 fX12_381 (by first | assumption | exact ma_up_s _ _ _ | exact (ma_up_n (by first | decide | omega | assumption)).trans (ma_up_s _ _ _) | exact (ma_up_n (by first | decide | omega | assumption)).trans (by assumption) | exact (ma_up_n (by first | decide | omega | assumption)).trans ((ma_up_n (by first | decide | omega | assumption)).trans (ma_up_s _ _ _)) | exact (ma_up_n (by first | decide | omega | assumption)).trans ((ma_up_n (by first | decide | omega | assumption)).trans (by assumption))) (by rfl) ?_
  refine ma_imul dX12_arrives_21 ?_
  refine ma_iconst dX12_arrives_22 ?_
  refine ma_iadd dX12_arrives_23 ?_
  refine ma_iload_n dX12_arrives_24 rfl ?_
  refine ma_iast dX12_arrives_25 (by first | assumption | exact ma_up_s _ _ _ | exact (ma_up_n (by first | decide | omega | assumption)).trans (ma_up_s _ _ _) | exact (ma_up_n (by first | decide | omega | assumption)).trans (by assumption) | exact (ma_up_n (by first | decide | omega | assumption)).trans ((ma_up_n (by first | decide | omega | assumption)).trans (ma_up_s _ _ _)) | exact (ma_up_n (by first | decide | omega | assumption)).trans ((ma_up_n (by first | decide | omega | assumption)).trans (by assumption))) (by omega) (by omega) (by omega) ?_
  rw [ma_up_up]
  refine ma_aload_n dX12_arrives_26 rfl ?_
  refine ma_getf dX12_arrives_27 fX12_72 (by first | assumption | exact ma_up_s _ _ _ | exact (ma_up_n (by first | decide | omega | assumption)).trans (ma_up_s _ _ _) | exact (ma_up_n (by first | decide | omega | assumption)).trans (by assumption) | exact (ma_up_n (by first | decide | omega | assumption)).trans ((ma_up_n (by first | decide | omega | assumption)).trans (ma_up_s _ _ _)) | exact (ma_up_n (by first | decide | omega | assumption)).trans ((ma_up_n (by first | decide | omega | assumption)).trans (by assumption))) (by rfl) ?_
  refine ma_iconst dX12_arrives_30 ?_
  refine ma_aload_n dX12_arrives_31 rfl ?_
  refine ma_getf dX12_arrives_32 fX12_381 (by first | assumption | exact ma_up_s _ _ _ | exact (ma_up_n (by first | decide | omega | assumption)).trans (ma_up_s _ _ _) | exact (ma_up_n (by first | decide | omega | assumption)).trans (by assumption) | exact (ma_up_n (by first | decide | omega | assumption)).trans ((ma_up_n (by first | decide | omega | assumption)).trans (ma_up_s _ _ _)) | exact (ma_up_n (by first | decide | omega | assumption)).trans ((ma_up_n (by first | decide | omega | assumption)).trans (by assumption))) (by rfl) ?_
  refine ma_imul dX12_arrives_35 ?_
  refine ma_iconst dX12_arrives_36 ?_
  refine ma_iadd dX12_arrives_37 ?_
  refine ma_iload_n dX12_arrives_38 rfl ?_
  refine ma_iast dX12_arrives_39 (by first | assumption | exact ma_up_s _ _ _ | exact (ma_up_n (by first | decide | omega | assumption)).trans (ma_up_s _ _ _) | exact (ma_up_n (by first | decide | omega | assumption)).trans (by assumption) | exact (ma_up_n (by first | decide | omega | assumption)).trans ((ma_up_n (by first | decide | omega | assumption)).trans (ma_up_s _ _ _)) | exact (ma_up_n (by first | decide | omega | assumption)).trans ((ma_up_n (by first | decide | omega | assumption)).trans (by assumption))) (by omega) (by omega) (by omega) ?_
  rw [ma_up_up]
  refine ma_aload_n dX12_arrives_40 rfl ?_
  refine ma_getf dX12_arrives_41 fX12_72 (by first | assumption | exact ma_up_s _ _ _ | exact (ma_up_n (by first | decide | omega | assumption)).trans (ma_up_s _ _ _) | exact (ma_up_n (by first | decide | omega | assumption)).trans (by assumption) | exact (ma_up_n (by first | decide | omega | assumption)).trans ((ma_up_n (by first | decide | omega | assumption)).trans (ma_up_s _ _ _)) | exact (ma_up_n (by first | decide | omega | assumption)).trans ((ma_up_n (by first | decide | omega | assumption)).trans (by assumption))) (by rfl) ?_
  refine ma_iconst dX12_arrives_44 ?_
  refine ma_aload_n dX12_arrives_45 rfl ?_
  refine ma_getf dX12_arrives_46 fX12_381 (by first | assumption | exact ma_up_s _ _ _ | exact (ma_up_n (by first | decide | omega | assumption)).trans (ma_up_s _ _ _) | exact (ma_up_n (by first | decide | omega | assumption)).trans (by assumption) | exact (ma_up_n (by first | decide | omega | assumption)).trans ((ma_up_n (by first | decide | omega | assumption)).trans (ma_up_s _ _ _)) | exact (ma_up_n (by first | decide | omega | assumption)).trans ((ma_up_n (by first | decide | omega | assumption)).trans (by assumption))) (by rfl) ?_
  refine ma_imul dX12_arrives_49 ?_
  refine ma_iconst dX12_arrives_50 ?_
  refine ma_iadd dX12_arrives_51 ?_
  refine ma_iload dX12_arrives_52 rfl ?_
  refine ma_iast dX12_arrives_54 (by first | assumption | exact ma_up_s _ _ _ | exact (ma_up_n (by first | decide | omega | assumption)).trans (ma_up_s _ _ _) | exact (ma_up_n (by first | decide | omega | assumption)).trans (by assumption) | exact (ma_up_n (by first | decide | omega | assumption)).trans ((ma_up_n (by first | decide | omega | assumption)).trans (ma_up_s _ _ _)) | exact (ma_up_n (by first | decide | omega | assumption)).trans ((ma_up_n (by first | decide | omega | assumption)).trans (by assumption))) (by omega) (by omega) (by omega) ?_
  rw [ma_up_up]
  refine ma_aload_n dX12_arrives_55 rfl ?_
  refine ma_dup dX12_arrives_56 rfl ?_
  refine ma_getf dX12_arrives_57 fX12_381 (by first | assumption | exact ma_up_s _ _ _ | exact (ma_up_n (by first | decide | omega | assumption)).trans (ma_up_s _ _ _) | exact (ma_up_n (by first | decide | omega | assumption)).trans (by assumption) | exact (ma_up_n (by first | decide | omega | assumption)).trans ((ma_up_n (by first | decide | omega | assumption)).trans (ma_up_s _ _ _)) | exact (ma_up_n (by first | decide | omega | assumption)).trans ((ma_up_n (by first | decide | omega | assumption)).trans (by assumption))) (by rfl) ?_
  refine ma_iconst dX12_arrives_60 ?_
  refine ma_iadd dX12_arrives_61 ?_
  refine ma_puti dX12_arrives_62 fX12_381 (by first | assumption | exact ma_up_s _ _ _ | exact (ma_up_n (by first | decide | omega | assumption)).trans (ma_up_s _ _ _) | exact (ma_up_n (by first | decide | omega | assumption)).trans (by assumption) | exact (ma_up_n (by first | decide | omega | assumption)).trans ((ma_up_n (by first | decide | omega | assumption)).trans (ma_up_s _ _ _)) | exact (ma_up_n (by first | decide | omega | assumption)).trans ((ma_up_n (by first | decide | omega | assumption)).trans (by assumption))) (Nat.le_of_ble_eq_true rfl) ?_
  rw [mo_34]
  exact ma_vret dX12_arrives_65 rfl K
theorem c_X12_beginMove {h : ma_H} {nx d : Nat} {Q : Option ma_V → ma_H → Nat → Prop} {I : Nat → Int} (hM : h 73 = co 12 (mo I)) (K : Q none (ma_up h 73 (co 12 (mo (iu (iu I 32 0) 34 0)))) nx) : ma_Ct mX12_beginMove d 0 0 [vr 73] h nx Q := by
  refine ma_Ct.of (by decide +kernel) (Nat.le_of_ble_eq_true rfl) ?_
  refine ma_aload_n dX12_beginMove_0 rfl ?_
  refine ma_iconst dX12_beginMove_1 ?_
  refine ma_puti dX12_beginMove_2 fX12_378 (by first | assumption | exact ma_up_s _ _ _ | exact (ma_up_n (by first | decide | omega | assumption)).trans (ma_up_s _ _ _) | exact (ma_up_n (by first | decide | omega | assumption)).trans (by assumption) | exact (ma_up_n (by first | decide | omega | assumption)).trans ((ma_up_n (by first | decide | omega | assumption)).trans (ma_up_s _ _ _)) | exact (ma_up_n (by first | decide | omega | assumption)).trans ((ma_up_n (by first | decide | omega | assumption)).trans (by assumption))) (Nat.le_of_ble_eq_true rfl) ?_
  rw [mo_32]
  refine ma_aload_n dX12_beginMove_5 rfl ?_
  refine ma_iconst dX12_beginMove_6 ?_
  refine ma_puti dX12_beginMove_7 fX12_381 (by first | assumption | exact ma_up_s _ _ _ | exact (ma_up_n (by first | decide | omega | assumption)).trans (ma_up_s _ _ _) | exact (ma_up_n (by first | decide | omega | assumption)).trans (by assumption) | exact (ma_up_n (by first | decide | omega | assumption)).trans ((ma_up_n (by first | decide | omega | assumption)).trans (ma_up_s _ _ _)) | exact (ma_up_n (by first | decide | omega | assumption)).trans ((ma_up_n (by first | decide | omega | assumption)).trans (by assumption))) (Nat.le_of_ble_eq_true rfl) ?_
  rw [mo_34, ma_up_up]
  exact ma_vret dX12_beginMove_10 rfl K
theorem lb_s {l : Int → Int} {i u f c : Int} (hL : LT l i u) (f0 : 0 ≤ f ∧ f < 4) (hc : 4 ≤ c ∧ c ≤ 4) : ∀ b, 0 ≤ b → b < 8 → ((∃ c', 0 ≤ c' ∧ c' < c ∧ c' ≠ f ∧ l (4 * i + c') = b) ↔ (b < 5 ∧ b ≠ u ∧ b ≠ l (4 * i + f))) := by
  intro b b0 b1
  constructor
  · rintro ⟨c', z0, z1, z2, z3⟩
    have := hL.2.1 c' z0 (by omega)
    exact ⟨by omega, by omega, fun z => z2 (hL.2.2.1 c' f z0 (by omega) f0.1 f0.2 (by omega))⟩
  · rintro ⟨z1, z2, z3⟩
    obtain ⟨c', y0, y1, y2⟩ := hL.2.2.2 b b0 z1 z2
    exact ⟨c', y0, by omega, fun z => z3 (by rw [← y2, z]), y2⟩
set_option maxHeartbeats 2000000 in
theorem l_X12_labelsOf {h : ma_H} {b nx d : Nat} {i f u : Int} {l : Int → Int} {Q : Option ma_V → ma_H → Nat → Prop} (hb : h b = ci 16 l) (hL : LT l i u) (i0 : 0 ≤ i ∧ i < 4) (f0 : 0 ≤ f ∧ f < 4) (K : Q (some (vi (mk5 u (l (4 * i + f))))) h nx) :
    ∀ (m : Nat) (c : Int) (m' : Int), (0 ≤ c) → (c ≤ 4) → (4 - c < m) → (MK m' (fun b => ∃ c', 0 ≤ c' ∧ c' < c ∧ c' ≠ f ∧ l (4 * i + c') = b)) → ma_J none mX12_labelsOf d 0 0 5 [some (vr b), some (vi i), some (vi f), some (vi m'), some (vi c)] [] h nx Q := by
  have lf := hL.2.1 f f0.1 f0.2
  intro m
  induction m with
  | zero => intro c m' c0 c1 c2 hm; omega
  | succ m ih =>
    intro c m' c0 c1 c2 hm
    refine ma_iload dX12_labelsOf_5 rfl ?_
    refine ma_iconst dX12_labelsOf_7 ?_
    refine ma_rcmp_ge 40 dX12_labelsOf_8 rfl (by constructor <;> omega) (by constructor <;> omega) (fun c8 => ?_) (fun c8 => ?_)
    · -- 40
      refine ma_iload_n dX12_labelsOf_40 rfl ?_
      rw [show m' = mk5 u (l (4 * i + f)) from (mk_eq hm (mk5_mk hL.1 ⟨lf.1, lf.2.1⟩ (Ne.symm lf.2.2))).mpr (lb_s hL f0 (by omega))]
      exact ma_iret dX12_labelsOf_41 rfl K
    · -- 11
      refine ma_iload_n dX12_labelsOf_11 rfl ?_
      refine ma_iload dX12_labelsOf_12 rfl ?_
      refine ma_iload_n dX12_labelsOf_14 rfl ?_
      refine ma_rcmp_ne 22 dX12_labelsOf_15 rfl (by constructor <;> omega) (by constructor <;> omega) (fun c15 => ?_) (fun c15 => ?_)
      · -- 22
        refine ma_iconst dX12_labelsOf_22 ?_
        refine ma_aload_n dX12_labelsOf_23 rfl ?_
        refine ma_iconst dX12_labelsOf_24 ?_
        refine ma_iload_n dX12_labelsOf_25 rfl ?_
        refine ma_imul dX12_labelsOf_26 ?_
        refine ma_iload dX12_labelsOf_27 rfl ?_
        refine ma_iadd dX12_labelsOf_29 ?_
        refine ma_iald dX12_labelsOf_30 (by assumption) (by omega) (by omega) (by omega) ?_
        have lc := hL.2.1 c c0 (by omega)
        refine ma_ishl dX12_labelsOf_31 ?_
        refine ma_ior dX12_labelsOf_32 ?_
        refine ma_istore_nN dX12_labelsOf_33 (by decide) rfl ?_
        refine ma_iincN dX12_labelsOf_34 rfl (by decide) rfl ?_
        refine ma_goto 5 dX12_labelsOf_37 rfl ?_
        exact ih (c + 1) _ (by omega) (by omega) (by omega) (mk_iff (mk_or hm lc.1 (by omega)) (fun b b0 b1 => ⟨fun z => z.elim (fun ⟨c', z0, z1, z2, z3⟩ => ⟨c', z0, by omega, z2, z3⟩) (fun z => ⟨c, c0, by omega, c15, z.symm⟩), fun ⟨c', z0, z1, z2, z3⟩ => by
          rcases Int.lt_or_eq_of_le (show c' ≤ c by omega) with y | y
          · exact Or.inl ⟨c', z0, y, z2, z3⟩
          · exact Or.inr (by rw [← z3, y])⟩))
      · -- 18
        refine ma_iconst dX12_labelsOf_18 ?_
        refine ma_goto 32 dX12_labelsOf_19 rfl ?_
        refine ma_ior dX12_labelsOf_32 ?_
        refine ma_istore_nN dX12_labelsOf_33 (by decide) rfl ?_
        refine ma_iincN dX12_labelsOf_34 rfl (by decide) rfl ?_
        refine ma_goto 5 dX12_labelsOf_37 rfl ?_
        exact ih (c + 1) _ (by omega) (by omega) (by omega) (mk_iff (mk_oo hm mk_0) (fun b b0 b1 => ⟨fun z => z.elim (fun ⟨c', z0, z1, z2, z3⟩ => ⟨c', z0, by omega, z2, z3⟩) (fun z => z.elim), fun ⟨c', z0, z1, z2, z3⟩ => by
          rcases Int.lt_or_eq_of_le (show c' ≤ c by omega) with y | y
          · exact Or.inl ⟨c', z0, y, z2, z3⟩
          · exact absurd (y.trans (by omega)) z2⟩))
theorem c_X12_labelsOf {h : ma_H} {b nx d : Nat} {i f u : Int} {l : Int → Int} {Q : Option ma_V → ma_H → Nat → Prop} (hb : h b = ci 16 l) (hL : LT l i u) (i0 : 0 ≤ i ∧ i < 4) (f0 : 0 ≤ f ∧ f < 4) (K : Q (some (vi (mk5 u (l (4 * i + f))))) h nx) : ma_Ct mX12_labelsOf d 0 0 [vr b, vi i, vi f] h nx Q := by
  refine ma_Ct.of (by decide +kernel) (Nat.le_of_ble_eq_true rfl) ?_
  refine ma_iconst dX12_labelsOf_0 ?_
  refine ma_istore_nN dX12_labelsOf_1 (by decide) rfl ?_
  refine ma_iconst dX12_labelsOf_2 ?_
  refine ma_istoreN dX12_labelsOf_3 (by decide) rfl ?_
  exact l_X12_labelsOf hb hL i0 f0 K 5 0 0 (by omega) (by omega) (by omega) (mk_iff mk_0 (fun b b0 b1 => ⟨fun z => z.elim, fun ⟨c', z0, z1, _⟩ => by omega⟩))
set_option maxHeartbeats 2000000 in
theorem l_X12_cornerOf {h : ma_H} {b nx d : Nat} {i c x u : Int} {l : Int → Int} {Q : Option ma_V → ma_H → Nat → Prop} (hb : h b = ci 16 l) (hL : LT l i u) (i0 : 0 ≤ i ∧ i < 4) (c0 : 0 ≤ c ∧ c < 4) (hc : l (4 * i + c) = x) (K : Q (some (vi c)) h nx) :
    ∀ (m : Nat) (k : Int), (0 ≤ k) → (k ≤ 4) → (4 - k < m) → (∀ j, 0 ≤ j → j < k → l (4 * i + j) ≠ x) → ma_J none mX12_cornerOf d 0 0 2 [some (vr b), some (vi i), some (vi x), some (vi k)] [] h nx Q := by
  intro m
  induction m with
  | zero => intro k k0 k1 k2 hk; omega
  | succ m ih =>
    intro k k0 k1 k2 hk
    refine ma_iload_n dX12_cornerOf_2 rfl ?_
    refine ma_iconst dX12_cornerOf_3 ?_
    refine ma_rcmp_ge 26 dX12_cornerOf_4 rfl (by constructor <;> omega) (by constructor <;> omega) (fun c4 => ?_) (fun c4 => ?_)
    · -- 26
      refine ma_iconst dX12_cornerOf_26 ?_
      exfalso
      exact hk c c0.1 (by omega) hc
    · -- 7
      refine ma_aload_n dX12_cornerOf_7 rfl ?_
      refine ma_iconst dX12_cornerOf_8 ?_
      refine ma_iload_n dX12_cornerOf_9 rfl ?_
      refine ma_imul dX12_cornerOf_10 ?_
      refine ma_iload_n dX12_cornerOf_11 rfl ?_
      refine ma_iadd dX12_cornerOf_12 ?_
      refine ma_iald dX12_cornerOf_13 (by assumption) (by omega) (by omega) (by omega) ?_
      have lc := hL.2.1 k k0 (by omega)
      have lx := hL.2.1 c c0.1 c0.2
      refine ma_iload_n dX12_cornerOf_14 rfl ?_
      refine ma_rcmp_ne 20 dX12_cornerOf_15 rfl (by constructor <;> omega) (by constructor <;> omega) (fun c15 => ?_) (fun c15 => ?_)
      · -- 20
        refine ma_iincN dX12_cornerOf_20 rfl (by decide) rfl ?_
        refine ma_goto 2 dX12_cornerOf_23 rfl ?_
        exact ih (k + 1) (by omega) (by omega) (by omega) (fun j j0 j1 z => by
          rcases Int.lt_or_eq_of_le (show j ≤ k by omega) with y | y
          · exact hk j j0 y z
          · rw [y] at z; exact c15 z)
      · -- 18
        refine ma_iload_n dX12_cornerOf_18 rfl ?_
        rw [show k = c from hL.2.2.1 k c k0 (by omega) c0.1 c0.2 (by omega)]
        exact ma_iret dX12_cornerOf_19 rfl K
theorem c_X12_cornerOf {h : ma_H} {b nx d : Nat} {i c x u : Int} {l : Int → Int} {Q : Option ma_V → ma_H → Nat → Prop} (hb : h b = ci 16 l) (hL : LT l i u) (i0 : 0 ≤ i ∧ i < 4) (c0 : 0 ≤ c ∧ c < 4) (hc : l (4 * i + c) = x) (K : Q (some (vi c)) h nx) : ma_Ct mX12_cornerOf d 0 0 [vr b, vi i, vi x] h nx Q := by
  refine ma_Ct.of (by decide +kernel) (Nat.le_of_ble_eq_true rfl) ?_
  refine ma_iconst dX12_cornerOf_0 ?_
  refine ma_istore_nN dX12_cornerOf_1 (by decide) rfl ?_
  exact l_X12_cornerOf hb hL i0 c0 hc K 5 0 (by omega) (by omega) (by omega) (fun j j0 j1 => by omega)
set_option maxHeartbeats 2000000 in
theorem l_X12_goingAs {h : ma_H} {nx d : Nat} {gm x : Int} {go : Int → Int} {Q : Option ma_V → ma_H → Nat → Prop} {I : Nat → Int} (hM : h 73 = co 12 (mo I)) (h92 : h 92 = ci 4 go) (hg : I 32 = gm) (g0 : 0 ≤ gm ∧ gm ≤ 4) (hr : ∀ i, 0 ≤ i → i < gm → 0 ≤ go i ∧ go i < 8) (hx : rg x) (K1 : ∀ i, 0 ≤ i → i < gm → go i = x → Q (some (vi i)) h nx) (K0 : (∀ i, 0 ≤ i → i < gm → go i ≠ x) → Q (some (vi (-1))) h nx) :
    ∀ (m : Nat) (k : Int), (0 ≤ k) → (k ≤ gm) → (gm - k < m) → (∀ j, 0 ≤ j → j < k → go j ≠ x) → ma_J none mX12_goingAs d 0 0 2 [some (vr 73), some (vi x), some (vi k)] [] h nx Q := by
  unfold rg at hx
  intro m
  induction m with
  | zero => intro k k0 k1 k2 hk; omega
  | succ m ih =>
    intro k k0 k1 k2 hk
    refine ma_iload_n dX12_goingAs_2 rfl ?_
    refine ma_aload_n dX12_goingAs_3 rfl ?_
    refine ma_getf dX12_goingAs_4 fX12_378 (by assumption) (by rfl) ?_
    rw [hg]
    refine ma_rcmp_ge 28 dX12_goingAs_7 rfl (by constructor <;> omega) (by constructor <;> omega) (fun c7 => ?_) (fun c7 => ?_)
    · -- 28
      refine ma_iconst dX12_goingAs_28 ?_
      exact ma_iret dX12_goingAs_29 rfl (K0 (fun j j0 j1 => hk j j0 (by omega)))
    · -- 10
      refine ma_aload_n dX12_goingAs_10 rfl ?_
      refine ma_getf dX12_goingAs_11 fX12_66 (by assumption) (by rfl) ?_
      refine ma_iload_n dX12_goingAs_14 rfl ?_
      refine ma_iald dX12_goingAs_15 (by assumption) (by omega) (by omega) (by omega) ?_
      have lc := hr k k0 (by omega)
      refine ma_iload_n dX12_goingAs_16 rfl ?_
      refine ma_rcmp_ne 22 dX12_goingAs_17 rfl (by constructor <;> omega) (by constructor <;> omega) (fun c17 => ?_) (fun c17 => ?_)
      · -- 22
        refine ma_iincN dX12_goingAs_22 rfl (by decide) rfl ?_
        refine ma_goto 2 dX12_goingAs_25 rfl ?_
        exact ih (k + 1) (by omega) (by omega) (by omega) (fun j j0 j1 z => by
          rcases Int.lt_or_eq_of_le (show j ≤ k by omega) with y | y
          · exact hk j j0 y z
          · rw [y] at z; exact c17 z)
      · -- 20
        refine ma_iload_n dX12_goingAs_20 rfl ?_
        exact ma_iret dX12_goingAs_21 rfl (K1 k k0 (by omega) (by omega))
theorem c_X12_goingAs {h : ma_H} {nx d : Nat} {gm x : Int} {go : Int → Int} {Q : Option ma_V → ma_H → Nat → Prop} {I : Nat → Int} (hM : h 73 = co 12 (mo I)) (h92 : h 92 = ci 4 go) (hg : I 32 = gm) (g0 : 0 ≤ gm ∧ gm ≤ 4) (hr : ∀ i, 0 ≤ i → i < gm → 0 ≤ go i ∧ go i < 8) (hx : rg x) (K1 : ∀ i, 0 ≤ i → i < gm → go i = x → Q (some (vi i)) h nx) (K0 : (∀ i, 0 ≤ i → i < gm → go i ≠ x) → Q (some (vi (-1))) h nx) : ma_Ct mX12_goingAs d 0 0 [vr 73, vi x] h nx Q := by
  refine ma_Ct.of (by decide +kernel) (Nat.le_of_ble_eq_true rfl) ?_
  refine ma_iconst dX12_goingAs_0 ?_
  refine ma_istore_nN dX12_goingAs_1 (by decide) rfl ?_
  exact l_X12_goingAs hM h92 hg g0 hr hx K1 K0 5 0 (by omega) (by omega) (by omega) (fun j j0 j1 => by omega)
theorem mk5_b {l : Int → Int} {i u c : Int} (h : LT l i u) (c0 : 0 ≤ c) (c1 : c < 4) : 0 ≤ mk5 u (l (4 * i + c)) ∧ mk5 u (l (4 * i + c)) < 256 := by
  have q := h.2.1 c c0 c1
  have := mk5_mk h.1 ⟨q.1, q.2.1⟩ (Ne.symm q.2.2)
  exact ⟨this.1, this.2.1⟩
set_option maxHeartbeats 2000000 in
theorem l_X12_faceWith13 {h : ma_H} {nx d : Nat} {cm x but : Int} {cl cu : Int → Int} {Q : Option ma_V → ma_H → Nat → Prop} {I : Nat → Int} {j : Int} (hM : h 73 = co 12 (mo I)) (h94 : h 94 = ci 16 cl) (hg : I 34 = cm) (g0 : 0 ≤ cm ∧ cm ≤ 4) (hL : ∀ j, 0 ≤ j → j < cm → LT cl j (cu j)) (hx : rg x) (hbut : rg but) (K1 : ∀ j f, 0 ≤ j → j < cm → 0 ≤ f → f < 4 → 4 * j + f ≠ but → mk5 (cu j) (cl (4 * j + f)) = x → Q (some (vi (4 * j + f))) h nx) (K0 : (∀ j f, 0 ≤ j → j < cm → 0 ≤ f → f < 4 → 4 * j + f ≠ but → mk5 (cu j) (cl (4 * j + f)) ≠ x) → Q (some (vi (-1))) h nx) (j0 : 0 ≤ j ∧ j < cm) (KO : (∀ j' f', 0 ≤ j' → j' < cm → 0 ≤ f' → f' < 4 → 4 * j' + f' < 4 * j + 4 → 4 * j' + f' ≠ but → mk5 (cu j') (cl (4 * j' + f')) ≠ x) → ma_J none mX12_faceWith (d + 1) 0 0 56 [some (vr 73), some (vi x), some (vi but), some (vi j), some (vi 4)] [] h nx Q) :
    ∀ (m : Nat) (f : Int), (0 ≤ f) → (f ≤ 4) → (4 - f < m) → (∀ j' f', 0 ≤ j' → j' < cm → 0 ≤ f' → f' < 4 → 4 * j' + f' < 4 * j + f → 4 * j' + f' ≠ but → mk5 (cu j') (cl (4 * j' + f')) ≠ x) → ma_J none mX12_faceWith (d + 1) 0 0 13 [some (vr 73), some (vi x), some (vi but), some (vi j), some (vi f)] [] h nx Q := by
  unfold rg at hx hbut
  intro m
  induction m with
  | zero => intro f f0 f1 f2 hk; omega
  | succ m ih =>
    intro f f0 f1 f2 hk
    refine ma_iload dX12_faceWith_13 rfl ?_
    refine ma_iconst dX12_faceWith_15 ?_
    refine ma_rcmp_ge 56 dX12_faceWith_16 rfl (by constructor <;> omega) (by constructor <;> omega) (fun c16 => ?_) (fun c16 => ?_)
    · -- 56
      have e4 : f = 4 := by omega
      subst e4
      exact KO hk
    · -- 19
      refine ma_iconst dX12_faceWith_19 ?_
      refine ma_iload_n dX12_faceWith_20 rfl ?_
      refine ma_imul dX12_faceWith_21 ?_
      refine ma_iload dX12_faceWith_22 rfl ?_
      refine ma_iadd dX12_faceWith_24 ?_
      refine ma_iload_n dX12_faceWith_25 rfl ?_
      refine ma_rcmp_eq 50 dX12_faceWith_26 rfl (by constructor <;> omega) (by constructor <;> omega) (fun c26 => ?_) (fun c26 => ?_)
      · -- 50
        refine ma_iincN dX12_faceWith_50 rfl (by decide) rfl ?_
        refine ma_goto 13 dX12_faceWith_53 rfl ?_
        exact ih (f + 1) (by omega) (by omega) (by omega) (fun j' f' a1 a2 a3 a4 a5 a6 z => by
          rcases Int.lt_or_eq_of_le (show 4 * j' + f' ≤ 4 * j + f by omega) with y | y
          · exact hk j' f' a1 a2 a3 a4 y a6 z
          · have y1 : j' = j := by omega
            have y2 : f' = f := by omega
            subst y1; subst y2
            exact a6 c26)
      · -- 29
        refine ma_aload_n dX12_faceWith_29 rfl ?_
        refine ma_getf dX12_faceWith_30 fX12_72 (by assumption) (by rfl) ?_
        refine ma_iload_n dX12_faceWith_33 rfl ?_
        refine ma_iload dX12_faceWith_34 rfl ?_
        refine ma_cS [_, _, _] dX12_faceWith_36 wX12_labelsOf lX12_384 tX12_labelsOf (Nat.le_of_ble_eq_true rfl) ?_
        refine c_X12_labelsOf h94 (hL j j0.1 j0.2) (by constructor <;> omega) ⟨f0, by omega⟩ ?_
        have lm := mk5_b (hL j j0.1 j0.2) f0 (show f < 4 by omega)
        refine ma_iload_n dX12_faceWith_39 rfl ?_
        refine ma_rcmp_ne 50 dX12_faceWith_40 rfl (by constructor <;> omega) (by constructor <;> omega) (fun c40 => ?_) (fun c40 => ?_)
        · -- 50
          refine ma_iincN dX12_faceWith_50 rfl (by decide) rfl ?_
          refine ma_goto 13 dX12_faceWith_53 rfl ?_
          exact ih (f + 1) (by omega) (by omega) (by omega) (fun j' f' a1 a2 a3 a4 a5 a6 z => by
            rcases Int.lt_or_eq_of_le (show 4 * j' + f' ≤ 4 * j + f by omega) with y | y
            · exact hk j' f' a1 a2 a3 a4 y a6 z
            · have y1 : j' = j := by omega
              have y2 : f' = f := by omega
              subst y1; subst y2
              exact c40 z)
        · -- 43
          refine ma_iconst dX12_faceWith_43 ?_
          refine ma_iload_n dX12_faceWith_44 rfl ?_
          refine ma_imul dX12_faceWith_45 ?_
          refine ma_iload dX12_faceWith_46 rfl ?_
          refine ma_iadd dX12_faceWith_48 ?_
          exact ma_iret dX12_faceWith_49 rfl (K1 j f j0.1 j0.2 f0 (by omega) (by omega) (by omega))
set_option maxHeartbeats 2000000 in
theorem l_X12_faceWith2 {h : ma_H} {nx d : Nat} {cm x but : Int} {cl cu : Int → Int} {Q : Option ma_V → ma_H → Nat → Prop} {I : Nat → Int} (hM : h 73 = co 12 (mo I)) (h94 : h 94 = ci 16 cl) (hg : I 34 = cm) (g0 : 0 ≤ cm ∧ cm ≤ 4) (hL : ∀ j, 0 ≤ j → j < cm → LT cl j (cu j)) (hx : rg x) (hbut : rg but) (K1 : ∀ j f, 0 ≤ j → j < cm → 0 ≤ f → f < 4 → 4 * j + f ≠ but → mk5 (cu j) (cl (4 * j + f)) = x → Q (some (vi (4 * j + f))) h nx) (K0 : (∀ j f, 0 ≤ j → j < cm → 0 ≤ f → f < 4 → 4 * j + f ≠ but → mk5 (cu j) (cl (4 * j + f)) ≠ x) → Q (some (vi (-1))) h nx) :
    ∀ (m : Nat) (j : Int) (x4 : Option ma_V), (0 ≤ j) → (j ≤ cm) → (cm - j < m) → (∀ j' f', 0 ≤ j' → j' < cm → 0 ≤ f' → f' < 4 → 4 * j' + f' < 4 * j → 4 * j' + f' ≠ but → mk5 (cu j') (cl (4 * j' + f')) ≠ x) → ma_J none mX12_faceWith (d + 1) 0 0 2 [some (vr 73), some (vi x), some (vi but), some (vi j), x4] [] h nx Q := by
  intro m
  induction m with
  | zero => intro j x4 j0 j1 j2 hk; omega
  | succ m ih =>
    intro j x4 j0 j1 j2 hk
    refine ma_iload_n dX12_faceWith_2 rfl ?_
    refine ma_aload_n dX12_faceWith_3 rfl ?_
    refine ma_getf dX12_faceWith_4 fX12_381 (by assumption) (by rfl) ?_
    rw [hg]
    refine ma_rcmp_ge 62 dX12_faceWith_7 rfl (by constructor <;> omega) (by constructor <;> omega) (fun c7 => ?_) (fun c7 => ?_)
    · -- 62
      refine ma_iconst dX12_faceWith_62 ?_
      exact ma_iret dX12_faceWith_63 rfl (K0 (fun j' f' a1 a2 a3 a4 a5 => hk j' f' a1 a2 a3 a4 (by omega) a5))
    · -- 10
      refine ma_iconst dX12_faceWith_10 ?_
      refine ma_istoreN dX12_faceWith_11 (by decide) rfl ?_
      refine l_X12_faceWith13 hM h94 hg g0 hL hx hbut K1 K0 ⟨j0, by omega⟩ (fun hk' => ?_) 5 0 (by omega) (by omega) (by omega) (by rw [Int.add_zero]; exact hk)
      refine ma_iincN dX12_faceWith_56 rfl (by decide) rfl ?_
      refine ma_goto 2 dX12_faceWith_59 rfl ?_
      exact ih (j + 1) _ (by omega) (by omega) (by omega) (by rw [show 4 * (j + 1) = 4 * j + 4 by omega]; exact hk')
theorem c_X12_faceWith {h : ma_H} {nx d : Nat} {cm x but : Int} {cl cu : Int → Int} {Q : Option ma_V → ma_H → Nat → Prop} {I : Nat → Int} (hM : h 73 = co 12 (mo I)) (h94 : h 94 = ci 16 cl) (hg : I 34 = cm) (g0 : 0 ≤ cm ∧ cm ≤ 4) (hL : ∀ j, 0 ≤ j → j < cm → LT cl j (cu j)) (hx : rg x) (hbut : rg but) (K1 : ∀ j f, 0 ≤ j → j < cm → 0 ≤ f → f < 4 → 4 * j + f ≠ but → mk5 (cu j) (cl (4 * j + f)) = x → Q (some (vi (4 * j + f))) h nx) (K0 : (∀ j f, 0 ≤ j → j < cm → 0 ≤ f → f < 4 → 4 * j + f ≠ but → mk5 (cu j) (cl (4 * j + f)) ≠ x) → Q (some (vi (-1))) h nx) : ma_Ct mX12_faceWith (d + 1) 0 0 [vr 73, vi x, vi but] h nx Q := by
  refine ma_Ct.of (by decide +kernel) (Nat.le_of_ble_eq_true rfl) ?_
  refine ma_iconst dX12_faceWith_0 ?_
  refine ma_istore_nN dX12_faceWith_1 (by decide) rfl ?_
  exact l_X12_faceWith2 hM h94 hg g0 hL hx hbut K1 K0 5 0 _ (by omega) (by omega) (by omega) (fun j' f' a1 a2 a3 a4 a5 => by omega)
