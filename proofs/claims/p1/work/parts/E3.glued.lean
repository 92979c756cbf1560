set_option maxHeartbeats 2000000 in
theorem c_X12_glued {h : ma_H} {nx d : Nat} {t x f w : Int} {G Aa : Int → Int} {I : Nat → Int} {Q : Option ma_V → ma_H → Nat → Prop} (hM : h 73 = co 12 (mo I)) (h74 : h 74 = ci 33 Aa) (hG : VG t G) (hA : AG t G Aa) (rx : rg x) (rf : rg f) (rw_ : rg w) (K0 : ¬ ((0 ≤ x ∧ x < t) ∧ (0 ≤ f ∧ f < 4) ∧ 0 ≤ w ∧ w ≤ 2) → Q (some (vi 0)) (ma_up h 73 (co 12 (mo (iu (iu I 5 0) 5 1)))) nx) (Kn : ((0 ≤ x ∧ x < t) ∧ (0 ≤ f ∧ f < 4) ∧ 0 ≤ w ∧ w ≤ 2) → G (4 * x + f) < 0 → Q (some (vi (-1))) (ma_up h 73 (co 12 (mo (iu I 5 0)))) nx) (Ka : ((0 ≤ x ∧ x < t) ∧ (0 ≤ f ∧ f < 4) ∧ 0 ≤ w ∧ w ≤ 2) → 0 ≤ G (4 * x + f) → w = 0 → Q (some (vi (G (4 * x + f) / 32))) (ma_up h 73 (co 12 (mo (iu I 5 0)))) nx) (Kb : ((0 ≤ x ∧ x < t) ∧ (0 ≤ f ∧ f < 4) ∧ 0 ≤ w ∧ w ≤ 2) → 0 ≤ G (4 * x + f) → w = 1 → Q (some (vi (G (4 * x + f) % 32))) (ma_up h 73 (co 12 (mo (iu I 5 0)))) nx) (Kc : ((0 ≤ x ∧ x < t) ∧ (0 ≤ f ∧ f < 4) ∧ 0 ≤ w ∧ w ≤ 2) → 0 ≤ G (4 * x + f) → w = 2 → Q (some (vi (im (G (4 * x + f) % 32) f))) (ma_up h 73 (co 12 (mo (iu I 5 0)))) nx) : ma_Ct mX12_glued (d + 1) 0 0 [vr 73, vi x, vi f, vi w] h nx Q := by
  have ht := hG.1
  refine ma_Ct.of (by decide +kernel) (Nat.le_of_ble_eq_true rfl) ?_
  refine ma_aload_n dX12_glued_0 rfl ?_
  refine ma_iconst dX12_glued_1 ?_
  refine ma_puti dX12_glued_2 fX12_128 (by first | exact hM | exact ma_up_s _ _ _ | exact (ma_up_n (by decide)).trans h74) (Nat.le_of_ble_eq_true rfl) ?_
  rw [mo_5]
  refine ma_iload_n dX12_glued_5 rfl ?_
  refine ma_iconst dX12_glued_6 ?_
  refine ma_aload_n dX12_glued_7 rfl ?_
  refine ma_getf dX12_glued_8 fX12_9 (by first | exact hM | exact ma_up_s _ _ _ | exact (ma_up_n (by decide)).trans h74) (by rfl) ?_
  refine ma_iconst dX12_glued_11 ?_
  refine ma_iald dX12_glued_12 (by first | exact hM | exact ma_up_s _ _ _ | exact (ma_up_n (by decide)).trans h74) (by omega) (by omega) (by omega) ?_
  rw [hA.1]
  refine ma_iconst dX12_glued_13 ?_
  refine ma_isub dX12_glued_14 ?_
  refine ma_cS [_, _, _] dX12_glued_15 wX12_in lX12_179 tX12_in (Nat.le_of_ble_eq_true rfl) ?_
  refine c_X12_in rx (by unfold rg; decide) (by unfold rg; omega) (fun x0 x1 => ?_) (fun z => ?_)
  · -- k1
    refine ma_rif_eq 39 dX12_glued_18 rfl (by decide) (fun c18 => absurd c18 (by decide)) (fun c18 => ?_)
    refine ma_iload_n dX12_glued_21 rfl ?_
    refine ma_iconst dX12_glued_22 ?_
    refine ma_iconst dX12_glued_23 ?_
    refine ma_cS [_, _, _] dX12_glued_24 wX12_in lX12_179 tX12_in (Nat.le_of_ble_eq_true rfl) ?_
    refine c_X12_in rf (by unfold rg; decide) (by unfold rg; decide) (fun f0 f1 => ?_) (fun z => ?_)
    · -- k1
      refine ma_rif_eq 39 dX12_glued_27 rfl (by decide) (fun c27 => absurd c27 (by decide)) (fun c27 => ?_)
      refine ma_iload_n dX12_glued_30 rfl ?_
      refine ma_iconst dX12_glued_31 ?_
      refine ma_iconst dX12_glued_32 ?_
      refine ma_cS [_, _, _] dX12_glued_33 wX12_in lX12_179 tX12_in (Nat.le_of_ble_eq_true rfl) ?_
      refine c_X12_in rw_ (by unfold rg; decide) (by unfold rg; decide) (fun w0 w1 => ?_) (fun z => ?_)
      · -- k1
        refine ma_rif_ne 44 dX12_glued_36 rfl (by decide) (fun c36 => ?_) (fun c36 => absurd c36 (by decide))
        refine ma_aload_n dX12_glued_44 rfl ?_
        refine ma_getf dX12_glued_45 fX12_9 (by first | exact hM | exact ma_up_s _ _ _ | exact (ma_up_n (by decide)).trans h74) (by rfl) ?_
        refine ma_iload_n dX12_glued_48 rfl ?_
        refine ma_iload_n dX12_glued_49 rfl ?_
        refine ma_cS [_, _, _] dX12_glued_50 wX12_glue lX12_150 tX12_glue (Nat.le_of_ble_eq_true rfl) ?_
        refine c_X12_glue ((ma_up_n (by decide)).trans h74) (by omega) (by omega) ?_
        have gv := vg_in hG (k := (4 * x + f)) (by omega) (by omega)
        have ec : (Aa (1 + 4 * x + f) = -1 ∧ G (4 * x + f) < 0) ∨ (Aa (1 + 4 * x + f) = 24 * (G (4 * x + f) / 32) + G (4 * x + f) % 32 ∧ 0 ≤ G (4 * x + f) ∧ G (4 * x + f) < 256 ∧ G (4 * x + f) % 32 < 24) := by
          have e := hA.2 (4 * x + f) (by omega) (by omega)
          rw [show 1 + 4 * x + f = 1 + (4 * x + f) by omega, e]
          unfold cv
          split <;> omega
        generalize Aa (1 + 4 * x + f) = c at ec ⊢
        refine ma_istoreN dX12_glued_53 (by decide) rfl ?_
        refine ma_iload dX12_glued_55 rfl ?_
        refine ma_iconst dX12_glued_57 ?_
        refine ma_rcmp_ne 63 dX12_glued_58 rfl (by constructor <;> omega) (by constructor <;> omega) (fun c58 => ?_) (fun c58 => ?_)
        · -- 63
          refine ma_iload_n dX12_glued_63 rfl ?_
          refine ma_rif_ne 75 dX12_glued_64 rfl (by constructor <;> omega) (fun c64 => ?_) (fun c64 => ?_)
          · -- 75
            refine ma_iload_n dX12_glued_75 rfl ?_
            refine ma_iconst dX12_glued_76 ?_
            refine ma_rcmp_ne 88 dX12_glued_77 rfl (by constructor <;> omega) (by constructor <;> omega) (fun c77 => ?_) (fun c77 => ?_)
            · -- 88
              refine ma_iload dX12_glued_88 rfl ?_
              refine ma_bipush dX12_glued_90 ?_
              refine ma_kmod dX12_glued_92 (by constructor <;> omega) (by constructor <;> omega) ?_
              refine ma_iload_n dX12_glued_93 rfl ?_
              refine ma_cS [_, _] dX12_glued_94 wX12_image lX12_124 tX12_image (Nat.le_of_ble_eq_true rfl) ?_
              refine c_X12_image (by omega) (by omega) ?_
              first | (rw [show c / 24 = G (4 * x + f) / 32 by omega]; exact ma_iret dX12_glued_97 rfl (Ka ⟨⟨x0, by omega⟩, ⟨f0, by omega⟩, w0, w1⟩ (by omega) (by omega))) | (rw [show c % 24 = G (4 * x + f) % 32 by omega]; first | exact ma_iret dX12_glued_97 rfl (Kb ⟨⟨x0, by omega⟩, ⟨f0, by omega⟩, w0, w1⟩ (by omega) (by omega)) | exact ma_iret dX12_glued_97 rfl (Kc ⟨⟨x0, by omega⟩, ⟨f0, by omega⟩, w0, w1⟩ (by omega) (by omega)))
            · -- 80
              refine ma_iload dX12_glued_80 rfl ?_
              refine ma_bipush dX12_glued_82 ?_
              refine ma_kmod dX12_glued_84 (by constructor <;> omega) (by constructor <;> omega) ?_
              refine ma_goto 97 dX12_glued_85 rfl ?_
              first | (rw [show c / 24 = G (4 * x + f) / 32 by omega]; exact ma_iret dX12_glued_97 rfl (Ka ⟨⟨x0, by omega⟩, ⟨f0, by omega⟩, w0, w1⟩ (by omega) (by omega))) | (rw [show c % 24 = G (4 * x + f) % 32 by omega]; first | exact ma_iret dX12_glued_97 rfl (Kb ⟨⟨x0, by omega⟩, ⟨f0, by omega⟩, w0, w1⟩ (by omega) (by omega)) | exact ma_iret dX12_glued_97 rfl (Kc ⟨⟨x0, by omega⟩, ⟨f0, by omega⟩, w0, w1⟩ (by omega) (by omega)))
          · -- 67
            refine ma_iload dX12_glued_67 rfl ?_
            refine ma_bipush dX12_glued_69 ?_
            refine ma_kdiv dX12_glued_71 (by constructor <;> omega) (by constructor <;> omega) ?_
            refine ma_goto 97 dX12_glued_72 rfl ?_
            first | (rw [show c / 24 = G (4 * x + f) / 32 by omega]; exact ma_iret dX12_glued_97 rfl (Ka ⟨⟨x0, by omega⟩, ⟨f0, by omega⟩, w0, w1⟩ (by omega) (by omega))) | (rw [show c % 24 = G (4 * x + f) % 32 by omega]; first | exact ma_iret dX12_glued_97 rfl (Kb ⟨⟨x0, by omega⟩, ⟨f0, by omega⟩, w0, w1⟩ (by omega) (by omega)) | exact ma_iret dX12_glued_97 rfl (Kc ⟨⟨x0, by omega⟩, ⟨f0, by omega⟩, w0, w1⟩ (by omega) (by omega)))
        · -- 61
          refine ma_iconst dX12_glued_61 ?_
          exact ma_iret dX12_glued_62 rfl (Kn ⟨⟨x0, by omega⟩, ⟨f0, by omega⟩, w0, w1⟩ (by omega))
      · -- k0
        refine ma_rif_ne 44 dX12_glued_36 rfl (by decide) (fun c36 => absurd c36 (by decide)) (fun c36 => ?_)
        refine ma_aload_n dX12_glued_39 rfl ?_
        refine ma_cV [] dX12_glued_40 wX12_lost lX12_228 iX12_lost sX12_lost rfl (by first | exact hM | exact ma_up_s _ _ _ | exact (ma_up_n (by decide)).trans h74) (Nat.le_of_ble_eq_true rfl) ?_
        refine c_X12_lost (ma_up_s _ _ _) ?_
        rw [ma_up_up]
        exact ma_iret dX12_glued_43 rfl (K0 (fun y => z ⟨by omega, by omega⟩))
    · -- k0
      refine ma_rif_eq 39 dX12_glued_27 rfl (by decide) (fun c27 => ?_) (fun c27 => absurd c27 (by decide))
      refine ma_aload_n dX12_glued_39 rfl ?_
      refine ma_cV [] dX12_glued_40 wX12_lost lX12_228 iX12_lost sX12_lost rfl (by first | exact hM | exact ma_up_s _ _ _ | exact (ma_up_n (by decide)).trans h74) (Nat.le_of_ble_eq_true rfl) ?_
      refine c_X12_lost (ma_up_s _ _ _) ?_
      rw [ma_up_up]
      exact ma_iret dX12_glued_43 rfl (K0 (fun y => z ⟨by omega, by omega⟩))
  · -- k0
    refine ma_rif_eq 39 dX12_glued_18 rfl (by decide) (fun c18 => ?_) (fun c18 => absurd c18 (by decide))
    refine ma_aload_n dX12_glued_39 rfl ?_
    refine ma_cV [] dX12_glued_40 wX12_lost lX12_228 iX12_lost sX12_lost rfl (by first | exact hM | exact ma_up_s _ _ _ | exact (ma_up_n (by decide)).trans h74) (Nat.le_of_ble_eq_true rfl) ?_
    refine c_X12_lost (ma_up_s _ _ _) ?_
    rw [ma_up_up]
    exact ma_iret dX12_glued_43 rfl (K0 (fun y => z ⟨by omega, by omega⟩))
