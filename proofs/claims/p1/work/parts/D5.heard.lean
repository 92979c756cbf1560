theorem hg_o {w : Int} (h : ¬ (0 ≤ w ∧ w ≤ 4)) : hg w = -1 := by
  unfold hg
  rw [if_neg (by omega), if_neg (by omega), if_neg (by omega)]
theorem hg_a {w : Int} (h : w = 0) : hg w = 48 := by
  subst h; rfl
theorem hg_b {w : Int} (h : w = 3) : hg w = 7 := by
  subst h; rfl
theorem hg_c {w : Int} (h : 0 ≤ w ∧ w ≤ 4) (a : w ≠ 0) (b : w ≠ 3) : hg w = 1 := by
  unfold hg
  rw [if_neg a, if_neg b, if_pos (by omega)]
theorem up3 {h : ma_H} {a c e x : ma_C} : ma_up (ma_up (ma_up (ma_up h 73 a) 109 c) 110 e) 73 x = ma_up (ma_up (ma_up h 109 c) 110 e) 73 x := by
  rw [up_co (a := 73) (by decide), up_co (a := 73) (by decide), ma_up_up]
set_option maxHeartbeats 2000000 in
theorem c_X12_heard {h : ma_H} {nx d : Nat} {n w v : Int} {A C : Int → Int} {I : Nat → Int} {Q : Option ma_V → ma_H → Nat → Prop} (hM : h 73 = co 12 (mo I)) (h109 : h 109 = ci 8 A) (h110 : h 110 = ci 8 C) (e59 : I 59 = n) (hn : 0 ≤ n ∧ n ≤ 8) (rww : rg w) (rv : rg v) (K0 : ¬ (n < 8 ∧ 0 ≤ v ∧ v ≤ hg w) → Q (some (vi (-1))) (ma_up h 73 (co 12 (mo (iu I 5 0)))) nx) (K : n < 8 ∧ 0 ≤ v ∧ v ≤ hg w → Q (some (vi (n + 1))) (ma_up (ma_up (ma_up h 109 (ci 8 (uf A n w))) 110 (ci 8 (uf C n v))) 73 (co 12 (mo (iu (iu I 5 0) 59 (n + 1))))) nx) : ma_Ct mX12_heard (d + 1) 0 0 [vr 73, vi w, vi v] h nx Q := by
  have rw' := rww
  have rv' := rv
  unfold rg at rw' rv'
  refine ma_Ct.of (by decide +kernel) (Nat.le_of_ble_eq_true rfl) ?_
  refine ma_aload_n dX12_heard_0 rfl ?_
  refine ma_iconst dX12_heard_1 ?_
  refine ma_puti dX12_heard_2 fX12_128 (by first | assumption | exact ma_up_s _ _ _ | exact (ma_up_n (by decide)).trans (by assumption) | exact (ma_up_n (by decide)).trans (ma_up_s _ _ _) | exact (ma_up_n (by decide)).trans ((ma_up_n (by decide)).trans (by assumption)) | exact (ma_up_n (by decide)).trans ((ma_up_n (by decide)).trans (ma_up_s _ _ _))) (Nat.le_of_ble_eq_true rfl) ?_
  rw [mo_5]
  refine ma_iload_n dX12_heard_5 rfl ?_
  refine ma_iconst dX12_heard_6 ?_
  refine ma_iconst dX12_heard_7 ?_
  refine ma_cS [_, _, _] dX12_heard_8 wX12_in lX12_179 tX12_in (Nat.le_of_ble_eq_true rfl) ?_
  refine c_X12_in rww (by unfold rg; decide) (by unfold rg; decide) (fun a0 a1 => ?_) (fun z0 => ?_)
  · -- k1
    refine ma_rif_eq 23 dX12_heard_11 rfl (by decide) (fun c11 => absurd c11 (by decide)) (fun c11 => ?_)
    refine ma_aload_n dX12_heard_14 rfl ?_
    refine ma_getf dX12_heard_15 fX12_498 (by first | assumption | exact ma_up_s _ _ _ | exact (ma_up_n (by decide)).trans (by assumption) | exact (ma_up_n (by decide)).trans (ma_up_s _ _ _) | exact (ma_up_n (by decide)).trans ((ma_up_n (by decide)).trans (by assumption)) | exact (ma_up_n (by decide)).trans ((ma_up_n (by decide)).trans (ma_up_s _ _ _))) (by rfl) ?_
    rw [iu_n (by decide), e59]
    refine ma_bipush dX12_heard_18 ?_
    refine ma_rcmp_ne 25 dX12_heard_20 rfl (by constructor <;> omega) (by constructor <;> omega) (fun c20 => ?_) (fun c20 => ?_)
    · -- 25
      refine ma_iload_n dX12_heard_25 rfl ?_
      refine ma_iconst dX12_heard_26 ?_
      refine ma_iload_n dX12_heard_27 rfl ?_
      refine ma_rif_ne 36 dX12_heard_28 rfl (by constructor <;> omega) (fun c28 => ?_) (fun c28 => ?_)
      · -- 36
        refine ma_iload_n dX12_heard_36 rfl ?_
        refine ma_iconst dX12_heard_37 ?_
        refine ma_rcmp_ne 46 dX12_heard_38 rfl (by constructor <;> omega) (by constructor <;> omega) (fun c38 => ?_) (fun c38 => ?_)
        · -- 46
          refine ma_iconst dX12_heard_46 ?_
          refine ma_cS [_, _, _] dX12_heard_47 wX12_in lX12_179 tX12_in (Nat.le_of_ble_eq_true rfl) ?_
          refine c_X12_in rv (by unfold rg; decide) (by unfold rg; decide) (fun b0 b1 => ?_) (fun b => ?_)
          · -- k1
            refine ma_rif_ne 55 dX12_heard_50 rfl (by decide) (fun c50 => ?_) (fun c50 => absurd c50 (by decide))
            refine ma_aload_n dX12_heard_55 rfl ?_
            refine ma_getf dX12_heard_56 fX12_118 (by first | assumption | exact ma_up_s _ _ _ | exact (ma_up_n (by decide)).trans (by assumption) | exact (ma_up_n (by decide)).trans (ma_up_s _ _ _) | exact (ma_up_n (by decide)).trans ((ma_up_n (by decide)).trans (by assumption)) | exact (ma_up_n (by decide)).trans ((ma_up_n (by decide)).trans (ma_up_s _ _ _))) (by rfl) ?_
            refine ma_aload_n dX12_heard_59 rfl ?_
            refine ma_getf dX12_heard_60 fX12_498 (by first | assumption | exact ma_up_s _ _ _ | exact (ma_up_n (by decide)).trans (by assumption) | exact (ma_up_n (by decide)).trans (ma_up_s _ _ _) | exact (ma_up_n (by decide)).trans ((ma_up_n (by decide)).trans (by assumption)) | exact (ma_up_n (by decide)).trans ((ma_up_n (by decide)).trans (ma_up_s _ _ _))) (by rfl) ?_
            rw [iu_n (by decide), e59]
            refine ma_iload_n dX12_heard_63 rfl ?_
            refine ma_iast dX12_heard_64 (by first | assumption | exact ma_up_s _ _ _ | exact (ma_up_n (by decide)).trans (by assumption) | exact (ma_up_n (by decide)).trans (ma_up_s _ _ _) | exact (ma_up_n (by decide)).trans ((ma_up_n (by decide)).trans (by assumption)) | exact (ma_up_n (by decide)).trans ((ma_up_n (by decide)).trans (ma_up_s _ _ _))) (by omega) (by omega) (by omega) ?_
            refine ma_aload_n dX12_heard_65 rfl ?_
            refine ma_getf dX12_heard_66 fX12_121 (by first | assumption | exact ma_up_s _ _ _ | exact (ma_up_n (by decide)).trans (by assumption) | exact (ma_up_n (by decide)).trans (ma_up_s _ _ _) | exact (ma_up_n (by decide)).trans ((ma_up_n (by decide)).trans (by assumption)) | exact (ma_up_n (by decide)).trans ((ma_up_n (by decide)).trans (ma_up_s _ _ _))) (by rfl) ?_
            refine ma_aload_n dX12_heard_69 rfl ?_
            refine ma_getf dX12_heard_70 fX12_498 (by first | assumption | exact ma_up_s _ _ _ | exact (ma_up_n (by decide)).trans (by assumption) | exact (ma_up_n (by decide)).trans (ma_up_s _ _ _) | exact (ma_up_n (by decide)).trans ((ma_up_n (by decide)).trans (by assumption)) | exact (ma_up_n (by decide)).trans ((ma_up_n (by decide)).trans (ma_up_s _ _ _))) (by rfl) ?_
            rw [iu_n (by decide), e59]
            refine ma_iload_n dX12_heard_73 rfl ?_
            refine ma_iast dX12_heard_74 (by first | assumption | exact ma_up_s _ _ _ | exact (ma_up_n (by decide)).trans (by assumption) | exact (ma_up_n (by decide)).trans (ma_up_s _ _ _) | exact (ma_up_n (by decide)).trans ((ma_up_n (by decide)).trans (by assumption)) | exact (ma_up_n (by decide)).trans ((ma_up_n (by decide)).trans (ma_up_s _ _ _))) (by omega) (by omega) (by omega) ?_
            refine ma_aload_n dX12_heard_75 rfl ?_
            refine ma_dup dX12_heard_76 rfl ?_
            refine ma_getf dX12_heard_77 fX12_498 (by first | assumption | exact ma_up_s _ _ _ | exact (ma_up_n (by decide)).trans (by assumption) | exact (ma_up_n (by decide)).trans (ma_up_s _ _ _) | exact (ma_up_n (by decide)).trans ((ma_up_n (by decide)).trans (by assumption)) | exact (ma_up_n (by decide)).trans ((ma_up_n (by decide)).trans (ma_up_s _ _ _))) (by rfl) ?_
            rw [iu_n (by decide), e59]
            refine ma_iconst dX12_heard_80 ?_
            refine ma_iadd dX12_heard_81 ?_
            refine ma_puti dX12_heard_82 fX12_498 (by first | assumption | exact ma_up_s _ _ _ | exact (ma_up_n (by decide)).trans (by assumption) | exact (ma_up_n (by decide)).trans (ma_up_s _ _ _) | exact (ma_up_n (by decide)).trans ((ma_up_n (by decide)).trans (by assumption)) | exact (ma_up_n (by decide)).trans ((ma_up_n (by decide)).trans (ma_up_s _ _ _))) (Nat.le_of_ble_eq_true rfl) ?_
            rw [mo_59, up3]
            refine ma_aload_n dX12_heard_85 rfl ?_
            refine ma_getf dX12_heard_86 fX12_498 (by first | assumption | exact ma_up_s _ _ _ | exact (ma_up_n (by decide)).trans (by assumption) | exact (ma_up_n (by decide)).trans (ma_up_s _ _ _) | exact (ma_up_n (by decide)).trans ((ma_up_n (by decide)).trans (by assumption)) | exact (ma_up_n (by decide)).trans ((ma_up_n (by decide)).trans (ma_up_s _ _ _))) (by rfl) ?_
            rw [iu_s]
            first | exact ma_iret dX12_heard_89 rfl (K ⟨by omega, b0, by rw [hg_a (by omega)]; exact b1⟩) | exact ma_iret dX12_heard_89 rfl (K ⟨by omega, b0, by rw [hg_b (by omega)]; exact b1⟩) | exact ma_iret dX12_heard_89 rfl (K ⟨by omega, b0, by rw [hg_c ⟨a0, a1⟩ (by omega) (by omega)]; exact b1⟩)
          · -- k0
            refine ma_rif_ne 55 dX12_heard_50 rfl (by decide) (fun c50 => absurd c50 (by decide)) (fun c50 => ?_)
            refine ma_iconst dX12_heard_53 ?_
            first | exact ma_iret dX12_heard_54 rfl (K0 (fun z => b ⟨z.2.1, by have y := z.2.2; rw [hg_a (by omega)] at y; exact y⟩)) | exact ma_iret dX12_heard_54 rfl (K0 (fun z => b ⟨z.2.1, by have y := z.2.2; rw [hg_b (by omega)] at y; exact y⟩)) | exact ma_iret dX12_heard_54 rfl (K0 (fun z => b ⟨z.2.1, by have y := z.2.2; rw [hg_c ⟨a0, a1⟩ (by omega) (by omega)] at y; exact y⟩))
        · -- 41
          refine ma_bipush dX12_heard_41 ?_
          refine ma_goto 47 dX12_heard_43 rfl ?_
          refine ma_cS [_, _, _] dX12_heard_47 wX12_in lX12_179 tX12_in (Nat.le_of_ble_eq_true rfl) ?_
          refine c_X12_in rv (by unfold rg; decide) (by unfold rg; decide) (fun b0 b1 => ?_) (fun b => ?_)
          · -- k1
            refine ma_rif_ne 55 dX12_heard_50 rfl (by decide) (fun c50 => ?_) (fun c50 => absurd c50 (by decide))
            refine ma_aload_n dX12_heard_55 rfl ?_
            refine ma_getf dX12_heard_56 fX12_118 (by first | assumption | exact ma_up_s _ _ _ | exact (ma_up_n (by decide)).trans (by assumption) | exact (ma_up_n (by decide)).trans (ma_up_s _ _ _) | exact (ma_up_n (by decide)).trans ((ma_up_n (by decide)).trans (by assumption)) | exact (ma_up_n (by decide)).trans ((ma_up_n (by decide)).trans (ma_up_s _ _ _))) (by rfl) ?_
            refine ma_aload_n dX12_heard_59 rfl ?_
            refine ma_getf dX12_heard_60 fX12_498 (by first | assumption | exact ma_up_s _ _ _ | exact (ma_up_n (by decide)).trans (by assumption) | exact (ma_up_n (by decide)).trans (ma_up_s _ _ _) | exact (ma_up_n (by decide)).trans ((ma_up_n (by decide)).trans (by assumption)) | exact (ma_up_n (by decide)).trans ((ma_up_n (by decide)).trans (ma_up_s _ _ _))) (by rfl) ?_
            rw [iu_n (by decide), e59]
            refine ma_iload_n dX12_heard_63 rfl ?_
            refine ma_iast dX12_heard_64 (by first | assumption | exact ma_up_s _ _ _ | exact (ma_up_n (by decide)).trans (by assumption) | exact (ma_up_n (by decide)).trans (ma_up_s _ _ _) | exact (ma_up_n (by decide)).trans ((ma_up_n (by decide)).trans (by assumption)) | exact (ma_up_n (by decide)).trans ((ma_up_n (by decide)).trans (ma_up_s _ _ _))) (by omega) (by omega) (by omega) ?_
            refine ma_aload_n dX12_heard_65 rfl ?_
            refine ma_getf dX12_heard_66 fX12_121 (by first | assumption | exact ma_up_s _ _ _ | exact (ma_up_n (by decide)).trans (by assumption) | exact (ma_up_n (by decide)).trans (ma_up_s _ _ _) | exact (ma_up_n (by decide)).trans ((ma_up_n (by decide)).trans (by assumption)) | exact (ma_up_n (by decide)).trans ((ma_up_n (by decide)).trans (ma_up_s _ _ _))) (by rfl) ?_
            refine ma_aload_n dX12_heard_69 rfl ?_
            refine ma_getf dX12_heard_70 fX12_498 (by first | assumption | exact ma_up_s _ _ _ | exact (ma_up_n (by decide)).trans (by assumption) | exact (ma_up_n (by decide)).trans (ma_up_s _ _ _) | exact (ma_up_n (by decide)).trans ((ma_up_n (by decide)).trans (by assumption)) | exact (ma_up_n (by decide)).trans ((ma_up_n (by decide)).trans (ma_up_s _ _ _))) (by rfl) ?_
            rw [iu_n (by decide), e59]
            refine ma_iload_n dX12_heard_73 rfl ?_
            refine ma_iast dX12_heard_74 (by first | assumption | exact ma_up_s _ _ _ | exact (ma_up_n (by decide)).trans (by assumption) | exact (ma_up_n (by decide)).trans (ma_up_s _ _ _) | exact (ma_up_n (by decide)).trans ((ma_up_n (by decide)).trans (by assumption)) | exact (ma_up_n (by decide)).trans ((ma_up_n (by decide)).trans (ma_up_s _ _ _))) (by omega) (by omega) (by omega) ?_
            refine ma_aload_n dX12_heard_75 rfl ?_
            refine ma_dup dX12_heard_76 rfl ?_
            refine ma_getf dX12_heard_77 fX12_498 (by first | assumption | exact ma_up_s _ _ _ | exact (ma_up_n (by decide)).trans (by assumption) | exact (ma_up_n (by decide)).trans (ma_up_s _ _ _) | exact (ma_up_n (by decide)).trans ((ma_up_n (by decide)).trans (by assumption)) | exact (ma_up_n (by decide)).trans ((ma_up_n (by decide)).trans (ma_up_s _ _ _))) (by rfl) ?_
            rw [iu_n (by decide), e59]
            refine ma_iconst dX12_heard_80 ?_
            refine ma_iadd dX12_heard_81 ?_
            refine ma_puti dX12_heard_82 fX12_498 (by first | assumption | exact ma_up_s _ _ _ | exact (ma_up_n (by decide)).trans (by assumption) | exact (ma_up_n (by decide)).trans (ma_up_s _ _ _) | exact (ma_up_n (by decide)).trans ((ma_up_n (by decide)).trans (by assumption)) | exact (ma_up_n (by decide)).trans ((ma_up_n (by decide)).trans (ma_up_s _ _ _))) (Nat.le_of_ble_eq_true rfl) ?_
            rw [mo_59, up3]
            refine ma_aload_n dX12_heard_85 rfl ?_
            refine ma_getf dX12_heard_86 fX12_498 (by first | assumption | exact ma_up_s _ _ _ | exact (ma_up_n (by decide)).trans (by assumption) | exact (ma_up_n (by decide)).trans (ma_up_s _ _ _) | exact (ma_up_n (by decide)).trans ((ma_up_n (by decide)).trans (by assumption)) | exact (ma_up_n (by decide)).trans ((ma_up_n (by decide)).trans (ma_up_s _ _ _))) (by rfl) ?_
            rw [iu_s]
            first | exact ma_iret dX12_heard_89 rfl (K ⟨by omega, b0, by rw [hg_a (by omega)]; exact b1⟩) | exact ma_iret dX12_heard_89 rfl (K ⟨by omega, b0, by rw [hg_b (by omega)]; exact b1⟩) | exact ma_iret dX12_heard_89 rfl (K ⟨by omega, b0, by rw [hg_c ⟨a0, a1⟩ (by omega) (by omega)]; exact b1⟩)
          · -- k0
            refine ma_rif_ne 55 dX12_heard_50 rfl (by decide) (fun c50 => absurd c50 (by decide)) (fun c50 => ?_)
            refine ma_iconst dX12_heard_53 ?_
            first | exact ma_iret dX12_heard_54 rfl (K0 (fun z => b ⟨z.2.1, by have y := z.2.2; rw [hg_a (by omega)] at y; exact y⟩)) | exact ma_iret dX12_heard_54 rfl (K0 (fun z => b ⟨z.2.1, by have y := z.2.2; rw [hg_b (by omega)] at y; exact y⟩)) | exact ma_iret dX12_heard_54 rfl (K0 (fun z => b ⟨z.2.1, by have y := z.2.2; rw [hg_c ⟨a0, a1⟩ (by omega) (by omega)] at y; exact y⟩))
      · -- 31
        refine ma_bipush dX12_heard_31 ?_
        refine ma_goto 47 dX12_heard_33 rfl ?_
        refine ma_cS [_, _, _] dX12_heard_47 wX12_in lX12_179 tX12_in (Nat.le_of_ble_eq_true rfl) ?_
        refine c_X12_in rv (by unfold rg; decide) (by unfold rg; decide) (fun b0 b1 => ?_) (fun b => ?_)
        · -- k1
          refine ma_rif_ne 55 dX12_heard_50 rfl (by decide) (fun c50 => ?_) (fun c50 => absurd c50 (by decide))
          refine ma_aload_n dX12_heard_55 rfl ?_
          refine ma_getf dX12_heard_56 fX12_118 (by first | assumption | exact ma_up_s _ _ _ | exact (ma_up_n (by decide)).trans (by assumption) | exact (ma_up_n (by decide)).trans (ma_up_s _ _ _) | exact (ma_up_n (by decide)).trans ((ma_up_n (by decide)).trans (by assumption)) | exact (ma_up_n (by decide)).trans ((ma_up_n (by decide)).trans (ma_up_s _ _ _))) (by rfl) ?_
          refine ma_aload_n dX12_heard_59 rfl ?_
          refine ma_getf dX12_heard_60 fX12_498 (by first | assumption | exact ma_up_s _ _ _ | exact (ma_up_n (by decide)).trans (by assumption) | exact (ma_up_n (by decide)).trans (ma_up_s _ _ _) | exact (ma_up_n (by decide)).trans ((ma_up_n (by decide)).trans (by assumption)) | exact (ma_up_n (by decide)).trans ((ma_up_n (by decide)).trans (ma_up_s _ _ _))) (by rfl) ?_
          rw [iu_n (by decide), e59]
          refine ma_iload_n dX12_heard_63 rfl ?_
          refine ma_iast dX12_heard_64 (by first | assumption | exact ma_up_s _ _ _ | exact (ma_up_n (by decide)).trans (by assumption) | exact (ma_up_n (by decide)).trans (ma_up_s _ _ _) | exact (ma_up_n (by decide)).trans ((ma_up_n (by decide)).trans (by assumption)) | exact (ma_up_n (by decide)).trans ((ma_up_n (by decide)).trans (ma_up_s _ _ _))) (by omega) (by omega) (by omega) ?_
          refine ma_aload_n dX12_heard_65 rfl ?_
          refine ma_getf dX12_heard_66 fX12_121 (by first | assumption | exact ma_up_s _ _ _ | exact (ma_up_n (by decide)).trans (by assumption) | exact (ma_up_n (by decide)).trans (ma_up_s _ _ _) | exact (ma_up_n (by decide)).trans ((ma_up_n (by decide)).trans (by assumption)) | exact (ma_up_n (by decide)).trans ((ma_up_n (by decide)).trans (ma_up_s _ _ _))) (by rfl) ?_
          refine ma_aload_n dX12_heard_69 rfl ?_
          refine ma_getf dX12_heard_70 fX12_498 (by first | assumption | exact ma_up_s _ _ _ | exact (ma_up_n (by decide)).trans (by assumption) | exact (ma_up_n (by decide)).trans (ma_up_s _ _ _) | exact (ma_up_n (by decide)).trans ((ma_up_n (by decide)).trans (by assumption)) | exact (ma_up_n (by decide)).trans ((ma_up_n (by decide)).trans (ma_up_s _ _ _))) (by rfl) ?_
          rw [iu_n (by decide), e59]
          refine ma_iload_n dX12_heard_73 rfl ?_
          refine ma_iast dX12_heard_74 (by first | assumption | exact ma_up_s _ _ _ | exact (ma_up_n (by decide)).trans (by assumption) | exact (ma_up_n (by decide)).trans (ma_up_s _ _ _) | exact (ma_up_n (by decide)).trans ((ma_up_n (by decide)).trans (by assumption)) | exact (ma_up_n (by decide)).trans ((ma_up_n (by decide)).trans (ma_up_s _ _ _))) (by omega) (by omega) (by omega) ?_
          refine ma_aload_n dX12_heard_75 rfl ?_
          refine ma_dup dX12_heard_76 rfl ?_
          refine ma_getf dX12_heard_77 fX12_498 (by first | assumption | exact ma_up_s _ _ _ | exact (ma_up_n (by decide)).trans (by assumption) | exact (ma_up_n (by decide)).trans (ma_up_s _ _ _) | exact (ma_up_n (by decide)).trans ((ma_up_n (by decide)).trans (by assumption)) | exact (ma_up_n (by decide)).trans ((ma_up_n (by decide)).trans (ma_up_s _ _ _))) (by rfl) ?_
          rw [iu_n (by decide), e59]
          refine ma_iconst dX12_heard_80 ?_
          refine ma_iadd dX12_heard_81 ?_
          refine ma_puti dX12_heard_82 fX12_498 (by first | assumption | exact ma_up_s _ _ _ | exact (ma_up_n (by decide)).trans (by assumption) | exact (ma_up_n (by decide)).trans (ma_up_s _ _ _) | exact (ma_up_n (by decide)).trans ((ma_up_n (by decide)).trans (by assumption)) | exact (ma_up_n (by decide)).trans ((ma_up_n (by decide)).trans (ma_up_s _ _ _))) (Nat.le_of_ble_eq_true rfl) ?_
          rw [mo_59, up3]
          refine ma_aload_n dX12_heard_85 rfl ?_
          refine ma_getf dX12_heard_86 fX12_498 (by first | assumption | exact ma_up_s _ _ _ | exact (ma_up_n (by decide)).trans (by assumption) | exact (ma_up_n (by decide)).trans (ma_up_s _ _ _) | exact (ma_up_n (by decide)).trans ((ma_up_n (by decide)).trans (by assumption)) | exact (ma_up_n (by decide)).trans ((ma_up_n (by decide)).trans (ma_up_s _ _ _))) (by rfl) ?_
          rw [iu_s]
          first | exact ma_iret dX12_heard_89 rfl (K ⟨by omega, b0, by rw [hg_a (by omega)]; exact b1⟩) | exact ma_iret dX12_heard_89 rfl (K ⟨by omega, b0, by rw [hg_b (by omega)]; exact b1⟩) | exact ma_iret dX12_heard_89 rfl (K ⟨by omega, b0, by rw [hg_c ⟨a0, a1⟩ (by omega) (by omega)]; exact b1⟩)
        · -- k0
          refine ma_rif_ne 55 dX12_heard_50 rfl (by decide) (fun c50 => absurd c50 (by decide)) (fun c50 => ?_)
          refine ma_iconst dX12_heard_53 ?_
          first | exact ma_iret dX12_heard_54 rfl (K0 (fun z => b ⟨z.2.1, by have y := z.2.2; rw [hg_a (by omega)] at y; exact y⟩)) | exact ma_iret dX12_heard_54 rfl (K0 (fun z => b ⟨z.2.1, by have y := z.2.2; rw [hg_b (by omega)] at y; exact y⟩)) | exact ma_iret dX12_heard_54 rfl (K0 (fun z => b ⟨z.2.1, by have y := z.2.2; rw [hg_c ⟨a0, a1⟩ (by omega) (by omega)] at y; exact y⟩))
    · -- 23
      refine ma_iconst dX12_heard_23 ?_
      first | exact ma_iret dX12_heard_24 rfl (K0 (fun z => by rw [hg_o z0] at z; omega)) | exact ma_iret dX12_heard_24 rfl (K0 (fun z => by have := z.1; omega))
  · -- k0
    refine ma_rif_eq 23 dX12_heard_11 rfl (by decide) (fun c11 => ?_) (fun c11 => absurd c11 (by decide))
    refine ma_iconst dX12_heard_23 ?_
    first | exact ma_iret dX12_heard_24 rfl (K0 (fun z => by rw [hg_o z0] at z; omega)) | exact ma_iret dX12_heard_24 rfl (K0 (fun z => by have := z.1; omega))
