set_option maxHeartbeats 2000000 in
theorem c_X11_same {h : ma_H} {d : Nat} {t q0 x u1 u2 sz : Int} {G F1 F2 b T : Int → Int} {Q : Option ma_V → ma_H → Nat → Prop} (hx : h 0 = co 11 (xo q0)) (h1 : h 1 = co 8 [vi t, vr 2]) (h2 : h 2 = ci 32 G) (h7 : h 7 = cq 2 KO) (h12 : h 12 = cz 2 b) (h8 : h 8 = co 8 [vi u1, vr 9]) (h9 : h 9 = ci 32 F1) (h10 : h 10 = co 8 [vi u2, vr 11]) (h11 : h 11 = ci 32 F2) (rx : rg x) (h31 : h 31 = co 9 [vi sz, vr 32]) (h32 : h 32 = cl 65 T) (hb0 : b 0 = 0 ∨ b 0 = 1) (hb1 : b 1 = 0 ∨ b 1 = 1) (ht : 1 ≤ t ∧ t ≤ 8) (hu1 : 1 ≤ u1 ∧ u1 ≤ 8) (hu2 : 1 ≤ u2 ∧ u2 ≤ 8) (rG : ∀ j, 0 ≤ j → j < 32 → rg (G j)) (rF1 : ∀ j, 0 ≤ j → j < 32 → rg (F1 j)) (rF2 : ∀ j, 0 ≤ j → j < 32 → rg (F2 j)) (K0 : ¬ (0 ≤ x ∧ x < 2) → Q (some (vi (-1))) h 1000000) (Km : 0 ≤ x ∧ x < 2 → b x = 0 → Q (some (vi (-2))) h 1000000) (K1 : x = 0 → b 0 ≠ 0 → ∀ fl, (fl = 1 ∧ (t = u1 ∧ ∀ k, 0 ≤ k → k < 4 * t → G k = F1 k)) ∨ (fl = 0 ∧ ¬ (t = u1 ∧ ∀ k, 0 ≤ k → k < 4 * t → G k = F1 k)) → Q (some (vi fl)) (ma_up (ma_up (ma_up h 31 (co 9 [vi 0, vr 32])) 32 (cl 65 (uf T 0 u1))) 31 (co 9 [vi (0 + 1), vr 32])) 1000000) (K2 : x = 1 → b 1 ≠ 0 → ∀ fl, (fl = 1 ∧ (t = u2 ∧ ∀ k, 0 ≤ k → k < 4 * t → G k = F2 k)) ∨ (fl = 0 ∧ ¬ (t = u2 ∧ ∀ k, 0 ≤ k → k < 4 * t → G k = F2 k)) → Q (some (vi fl)) (ma_up (ma_up (ma_up h 31 (co 9 [vi 0, vr 32])) 32 (cl 65 (uf T 0 u2))) 31 (co 9 [vi (0 + 1), vr 32])) 1000000) : ma_Ct mX11_same (d + 2) 0 0 [vr 0, vi x] h 1000000 Q := by
  unfold rg at rx
  refine ma_Ct.of (by decide +kernel) (Nat.le_of_ble_eq_true rfl) ?_
  by_cases e0 : x = 0
  · subst e0
    refine ma_iload_n dX11_same_0 rfl ?_
    refine ma_rif_lt 9 dX11_same_1 rfl (by decide) (fun c1 => absurd c1 (by decide)) (fun c1 => ?_)
    refine ma_iload_n dX11_same_4 rfl ?_
    refine ma_iconst dX11_same_5 ?_
    refine ma_rcmp_lt 11 dX11_same_6 rfl (by decide) (by decide) (fun c6 => ?_) (fun c6 => absurd c6 (by decide))
    refine ma_aload_n dX11_same_11 rfl ?_
    refine ma_getf dX11_same_12 fX11_26 (by first | assumption | exact ma_up_s _ _ _ | exact (ma_up_n (by decide)).trans (by assumption) | exact ((ma_up_n (by decide)).trans ((ma_up_n (by decide)).trans ((ma_up_n (by decide)).trans hx))) | exact ((ma_up_n (by decide)).trans ((ma_up_n (by decide)).trans ((ma_up_n (by decide)).trans h7))) | exact ((ma_up_n (by decide)).trans ((ma_up_n (by decide)).trans ((ma_up_n (by decide)).trans h1)))) (by rfl) ?_
    refine ma_iload_n dX11_same_15 rfl ?_
    refine ma_zald dX11_same_16 (by first | assumption | exact ma_up_s _ _ _ | exact (ma_up_n (by decide)).trans (by assumption) | exact ((ma_up_n (by decide)).trans ((ma_up_n (by decide)).trans ((ma_up_n (by decide)).trans hx))) | exact ((ma_up_n (by decide)).trans ((ma_up_n (by decide)).trans ((ma_up_n (by decide)).trans h7))) | exact ((ma_up_n (by decide)).trans ((ma_up_n (by decide)).trans ((ma_up_n (by decide)).trans h1)))) (by omega) (by omega) (by omega) ?_
    refine ma_rif_ne 23 dX11_same_17 rfl (by rcases hb0 with z | z <;> rw [z] <;> decide) (fun c17 => ?_) (fun c17 => ?_)
    · -- 23
      refine ma_aload_n dX11_same_23 rfl ?_
      refine ma_getf dX11_same_24 fX11_40 (by first | assumption | exact ma_up_s _ _ _ | exact (ma_up_n (by decide)).trans (by assumption) | exact ((ma_up_n (by decide)).trans ((ma_up_n (by decide)).trans ((ma_up_n (by decide)).trans hx))) | exact ((ma_up_n (by decide)).trans ((ma_up_n (by decide)).trans ((ma_up_n (by decide)).trans h7))) | exact ((ma_up_n (by decide)).trans ((ma_up_n (by decide)).trans ((ma_up_n (by decide)).trans h1)))) (by rfl) ?_
      refine ma_cV [] dX11_same_27 wX9_clear lX11_141 iX9_clear sX9_clear rfl (by first | assumption | exact ma_up_s _ _ _ | exact (ma_up_n (by decide)).trans (by assumption) | exact ((ma_up_n (by decide)).trans ((ma_up_n (by decide)).trans ((ma_up_n (by decide)).trans hx))) | exact ((ma_up_n (by decide)).trans ((ma_up_n (by decide)).trans ((ma_up_n (by decide)).trans h7))) | exact ((ma_up_n (by decide)).trans ((ma_up_n (by decide)).trans ((ma_up_n (by decide)).trans h1)))) (Nat.le_of_ble_eq_true rfl) ?_
      refine c_X9_clear h31 ?_
      refine ma_aload_n dX11_same_30 rfl ?_
      refine ma_getf dX11_same_31 fX11_40 (by first | assumption | exact ma_up_s _ _ _ | exact (ma_up_n (by decide)).trans (by assumption) | exact ((ma_up_n (by decide)).trans ((ma_up_n (by decide)).trans ((ma_up_n (by decide)).trans hx))) | exact ((ma_up_n (by decide)).trans ((ma_up_n (by decide)).trans ((ma_up_n (by decide)).trans h7))) | exact ((ma_up_n (by decide)).trans ((ma_up_n (by decide)).trans ((ma_up_n (by decide)).trans h1)))) (by rfl) ?_
      refine ma_aload_n dX11_same_34 rfl ?_
      refine ma_getf dX11_same_35 fX11_22 (by first | assumption | exact ma_up_s _ _ _ | exact (ma_up_n (by decide)).trans (by assumption) | exact ((ma_up_n (by decide)).trans ((ma_up_n (by decide)).trans ((ma_up_n (by decide)).trans hx))) | exact ((ma_up_n (by decide)).trans ((ma_up_n (by decide)).trans ((ma_up_n (by decide)).trans h7))) | exact ((ma_up_n (by decide)).trans ((ma_up_n (by decide)).trans ((ma_up_n (by decide)).trans h1)))) (by rfl) ?_
      refine ma_iload_n dX11_same_38 rfl ?_
      refine ma_aald dX11_same_39 (by first | assumption | exact ma_up_s _ _ _ | exact (ma_up_n (by decide)).trans (by assumption) | exact ((ma_up_n (by decide)).trans ((ma_up_n (by decide)).trans ((ma_up_n (by decide)).trans hx))) | exact ((ma_up_n (by decide)).trans ((ma_up_n (by decide)).trans ((ma_up_n (by decide)).trans h7))) | exact ((ma_up_n (by decide)).trans ((ma_up_n (by decide)).trans ((ma_up_n (by decide)).trans h1)))) (by omega) (by omega) (by omega) ?_
      rw [show KO 0 = some 8 from rfl]
      refine ma_getf dX11_same_40 fX11_123 (by first | assumption | exact ma_up_s _ _ _ | exact (ma_up_n (by decide)).trans (by assumption) | exact ((ma_up_n (by decide)).trans ((ma_up_n (by decide)).trans ((ma_up_n (by decide)).trans hx))) | exact ((ma_up_n (by decide)).trans ((ma_up_n (by decide)).trans ((ma_up_n (by decide)).trans h7))) | exact ((ma_up_n (by decide)).trans ((ma_up_n (by decide)).trans ((ma_up_n (by decide)).trans h1)))) (by rfl) ?_
      refine ma_i2l dX11_same_43 ?_
      refine ma_cV [_] dX11_same_44 wX9_add lX11_144 iX9_add sX9_add rfl (by first | assumption | exact ma_up_s _ _ _ | exact (ma_up_n (by decide)).trans (by assumption) | exact ((ma_up_n (by decide)).trans ((ma_up_n (by decide)).trans ((ma_up_n (by decide)).trans hx))) | exact ((ma_up_n (by decide)).trans ((ma_up_n (by decide)).trans ((ma_up_n (by decide)).trans h7))) | exact ((ma_up_n (by decide)).trans ((ma_up_n (by decide)).trans ((ma_up_n (by decide)).trans h1)))) (Nat.le_of_ble_eq_true rfl) ?_
      refine c_X9_add (ma_up_s _ _ _) ((ma_up_n (by decide)).trans h32) (by decide) (by decide) ?_
      rw [iw_of (by omega) (by omega)]
      refine ma_aload_n dX11_same_47 rfl ?_
      refine ma_getf dX11_same_48 fX11_10 (by first | assumption | exact ma_up_s _ _ _ | exact (ma_up_n (by decide)).trans (by assumption) | exact ((ma_up_n (by decide)).trans ((ma_up_n (by decide)).trans ((ma_up_n (by decide)).trans hx))) | exact ((ma_up_n (by decide)).trans ((ma_up_n (by decide)).trans ((ma_up_n (by decide)).trans h7))) | exact ((ma_up_n (by decide)).trans ((ma_up_n (by decide)).trans ((ma_up_n (by decide)).trans h1)))) (by rfl) ?_
      refine ma_aload_n dX11_same_51 rfl ?_
      refine ma_getf dX11_same_52 fX11_22 (by first | assumption | exact ma_up_s _ _ _ | exact (ma_up_n (by decide)).trans (by assumption) | exact ((ma_up_n (by decide)).trans ((ma_up_n (by decide)).trans ((ma_up_n (by decide)).trans hx))) | exact ((ma_up_n (by decide)).trans ((ma_up_n (by decide)).trans ((ma_up_n (by decide)).trans h7))) | exact ((ma_up_n (by decide)).trans ((ma_up_n (by decide)).trans ((ma_up_n (by decide)).trans h1)))) (by rfl) ?_
      refine ma_iload_n dX11_same_55 rfl ?_
      refine ma_aald dX11_same_56 (by first | assumption | exact ma_up_s _ _ _ | exact (ma_up_n (by decide)).trans (by assumption) | exact ((ma_up_n (by decide)).trans ((ma_up_n (by decide)).trans ((ma_up_n (by decide)).trans hx))) | exact ((ma_up_n (by decide)).trans ((ma_up_n (by decide)).trans ((ma_up_n (by decide)).trans h7))) | exact ((ma_up_n (by decide)).trans ((ma_up_n (by decide)).trans ((ma_up_n (by decide)).trans h1)))) (by omega) (by omega) (by omega) ?_
      rw [show KO 0 = some 8 from rfl]
      refine ma_cV [_] dX11_same_57 wX8_isLike lX11_262 iX8_isLike sX8_isLike rfl (by first | assumption | exact ma_up_s _ _ _ | exact (ma_up_n (by decide)).trans (by assumption) | exact ((ma_up_n (by decide)).trans ((ma_up_n (by decide)).trans ((ma_up_n (by decide)).trans hx))) | exact ((ma_up_n (by decide)).trans ((ma_up_n (by decide)).trans ((ma_up_n (by decide)).trans h7))) | exact ((ma_up_n (by decide)).trans ((ma_up_n (by decide)).trans ((ma_up_n (by decide)).trans h1)))) (Nat.le_of_ble_eq_true rfl) ?_
      refine c_X8_isLike ((ma_up_n (by decide)).trans ((ma_up_n (by decide)).trans ((ma_up_n (by decide)).trans h1))) ((ma_up_n (by decide)).trans ((ma_up_n (by decide)).trans ((ma_up_n (by decide)).trans h2))) ((ma_up_n (by decide)).trans ((ma_up_n (by decide)).trans ((ma_up_n (by decide)).trans h8))) ((ma_up_n (by decide)).trans ((ma_up_n (by decide)).trans ((ma_up_n (by decide)).trans h9))) (by omega) (by unfold rg; omega) rG rF1 (fun y => ?_) (fun y => ?_)
      · -- k1
        refine ma_rif_eq 67 dX11_same_60 rfl (by decide) (fun c60 => absurd c60 (by decide)) (fun c60 => ?_)
        refine ma_iconst dX11_same_63 ?_
        refine ma_goto 68 dX11_same_64 rfl ?_
        exact ma_iret dX11_same_68 rfl (K1 rfl c17 1 (Or.inl ⟨rfl, y⟩))
      · -- k0
        refine ma_rif_eq 67 dX11_same_60 rfl (by decide) (fun c60 => ?_) (fun c60 => absurd c60 (by decide))
        refine ma_iconst dX11_same_67 ?_
        exact ma_iret dX11_same_68 rfl (K1 rfl c17 0 (Or.inr ⟨rfl, y⟩))
    · -- 20
      refine ma_bipush dX11_same_20 ?_
      exact ma_iret dX11_same_22 rfl (Km ⟨by decide, by decide⟩ c17)
  by_cases e1 : x = 1
  · subst e1
    refine ma_iload_n dX11_same_0 rfl ?_
    refine ma_rif_lt 9 dX11_same_1 rfl (by decide) (fun c1 => absurd c1 (by decide)) (fun c1 => ?_)
    refine ma_iload_n dX11_same_4 rfl ?_
    refine ma_iconst dX11_same_5 ?_
    refine ma_rcmp_lt 11 dX11_same_6 rfl (by decide) (by decide) (fun c6 => ?_) (fun c6 => absurd c6 (by decide))
    refine ma_aload_n dX11_same_11 rfl ?_
    refine ma_getf dX11_same_12 fX11_26 (by first | assumption | exact ma_up_s _ _ _ | exact (ma_up_n (by decide)).trans (by assumption) | exact ((ma_up_n (by decide)).trans ((ma_up_n (by decide)).trans ((ma_up_n (by decide)).trans hx))) | exact ((ma_up_n (by decide)).trans ((ma_up_n (by decide)).trans ((ma_up_n (by decide)).trans h7))) | exact ((ma_up_n (by decide)).trans ((ma_up_n (by decide)).trans ((ma_up_n (by decide)).trans h1)))) (by rfl) ?_
    refine ma_iload_n dX11_same_15 rfl ?_
    refine ma_zald dX11_same_16 (by first | assumption | exact ma_up_s _ _ _ | exact (ma_up_n (by decide)).trans (by assumption) | exact ((ma_up_n (by decide)).trans ((ma_up_n (by decide)).trans ((ma_up_n (by decide)).trans hx))) | exact ((ma_up_n (by decide)).trans ((ma_up_n (by decide)).trans ((ma_up_n (by decide)).trans h7))) | exact ((ma_up_n (by decide)).trans ((ma_up_n (by decide)).trans ((ma_up_n (by decide)).trans h1)))) (by omega) (by omega) (by omega) ?_
    refine ma_rif_ne 23 dX11_same_17 rfl (by rcases hb1 with z | z <;> rw [z] <;> decide) (fun c17 => ?_) (fun c17 => ?_)
    · -- 23
      refine ma_aload_n dX11_same_23 rfl ?_
      refine ma_getf dX11_same_24 fX11_40 (by first | assumption | exact ma_up_s _ _ _ | exact (ma_up_n (by decide)).trans (by assumption) | exact ((ma_up_n (by decide)).trans ((ma_up_n (by decide)).trans ((ma_up_n (by decide)).trans hx))) | exact ((ma_up_n (by decide)).trans ((ma_up_n (by decide)).trans ((ma_up_n (by decide)).trans h7))) | exact ((ma_up_n (by decide)).trans ((ma_up_n (by decide)).trans ((ma_up_n (by decide)).trans h1)))) (by rfl) ?_
      refine ma_cV [] dX11_same_27 wX9_clear lX11_141 iX9_clear sX9_clear rfl (by first | assumption | exact ma_up_s _ _ _ | exact (ma_up_n (by decide)).trans (by assumption) | exact ((ma_up_n (by decide)).trans ((ma_up_n (by decide)).trans ((ma_up_n (by decide)).trans hx))) | exact ((ma_up_n (by decide)).trans ((ma_up_n (by decide)).trans ((ma_up_n (by decide)).trans h7))) | exact ((ma_up_n (by decide)).trans ((ma_up_n (by decide)).trans ((ma_up_n (by decide)).trans h1)))) (Nat.le_of_ble_eq_true rfl) ?_
      refine c_X9_clear h31 ?_
      refine ma_aload_n dX11_same_30 rfl ?_
      refine ma_getf dX11_same_31 fX11_40 (by first | assumption | exact ma_up_s _ _ _ | exact (ma_up_n (by decide)).trans (by assumption) | exact ((ma_up_n (by decide)).trans ((ma_up_n (by decide)).trans ((ma_up_n (by decide)).trans hx))) | exact ((ma_up_n (by decide)).trans ((ma_up_n (by decide)).trans ((ma_up_n (by decide)).trans h7))) | exact ((ma_up_n (by decide)).trans ((ma_up_n (by decide)).trans ((ma_up_n (by decide)).trans h1)))) (by rfl) ?_
      refine ma_aload_n dX11_same_34 rfl ?_
      refine ma_getf dX11_same_35 fX11_22 (by first | assumption | exact ma_up_s _ _ _ | exact (ma_up_n (by decide)).trans (by assumption) | exact ((ma_up_n (by decide)).trans ((ma_up_n (by decide)).trans ((ma_up_n (by decide)).trans hx))) | exact ((ma_up_n (by decide)).trans ((ma_up_n (by decide)).trans ((ma_up_n (by decide)).trans h7))) | exact ((ma_up_n (by decide)).trans ((ma_up_n (by decide)).trans ((ma_up_n (by decide)).trans h1)))) (by rfl) ?_
      refine ma_iload_n dX11_same_38 rfl ?_
      refine ma_aald dX11_same_39 (by first | assumption | exact ma_up_s _ _ _ | exact (ma_up_n (by decide)).trans (by assumption) | exact ((ma_up_n (by decide)).trans ((ma_up_n (by decide)).trans ((ma_up_n (by decide)).trans hx))) | exact ((ma_up_n (by decide)).trans ((ma_up_n (by decide)).trans ((ma_up_n (by decide)).trans h7))) | exact ((ma_up_n (by decide)).trans ((ma_up_n (by decide)).trans ((ma_up_n (by decide)).trans h1)))) (by omega) (by omega) (by omega) ?_
      rw [show KO 1 = some 10 from rfl]
      refine ma_getf dX11_same_40 fX11_123 (by first | assumption | exact ma_up_s _ _ _ | exact (ma_up_n (by decide)).trans (by assumption) | exact ((ma_up_n (by decide)).trans ((ma_up_n (by decide)).trans ((ma_up_n (by decide)).trans hx))) | exact ((ma_up_n (by decide)).trans ((ma_up_n (by decide)).trans ((ma_up_n (by decide)).trans h7))) | exact ((ma_up_n (by decide)).trans ((ma_up_n (by decide)).trans ((ma_up_n (by decide)).trans h1)))) (by rfl) ?_
      refine ma_i2l dX11_same_43 ?_
      refine ma_cV [_] dX11_same_44 wX9_add lX11_144 iX9_add sX9_add rfl (by first | assumption | exact ma_up_s _ _ _ | exact (ma_up_n (by decide)).trans (by assumption) | exact ((ma_up_n (by decide)).trans ((ma_up_n (by decide)).trans ((ma_up_n (by decide)).trans hx))) | exact ((ma_up_n (by decide)).trans ((ma_up_n (by decide)).trans ((ma_up_n (by decide)).trans h7))) | exact ((ma_up_n (by decide)).trans ((ma_up_n (by decide)).trans ((ma_up_n (by decide)).trans h1)))) (Nat.le_of_ble_eq_true rfl) ?_
      refine c_X9_add (ma_up_s _ _ _) ((ma_up_n (by decide)).trans h32) (by decide) (by decide) ?_
      rw [iw_of (by omega) (by omega)]
      refine ma_aload_n dX11_same_47 rfl ?_
      refine ma_getf dX11_same_48 fX11_10 (by first | assumption | exact ma_up_s _ _ _ | exact (ma_up_n (by decide)).trans (by assumption) | exact ((ma_up_n (by decide)).trans ((ma_up_n (by decide)).trans ((ma_up_n (by decide)).trans hx))) | exact ((ma_up_n (by decide)).trans ((ma_up_n (by decide)).trans ((ma_up_n (by decide)).trans h7))) | exact ((ma_up_n (by decide)).trans ((ma_up_n (by decide)).trans ((ma_up_n (by decide)).trans h1)))) (by rfl) ?_
      refine ma_aload_n dX11_same_51 rfl ?_
      refine ma_getf dX11_same_52 fX11_22 (by first | assumption | exact ma_up_s _ _ _ | exact (ma_up_n (by decide)).trans (by assumption) | exact ((ma_up_n (by decide)).trans ((ma_up_n (by decide)).trans ((ma_up_n (by decide)).trans hx))) | exact ((ma_up_n (by decide)).trans ((ma_up_n (by decide)).trans ((ma_up_n (by decide)).trans h7))) | exact ((ma_up_n (by decide)).trans ((ma_up_n (by decide)).trans ((ma_up_n (by decide)).trans h1)))) (by rfl) ?_
      refine ma_iload_n dX11_same_55 rfl ?_
      refine ma_aald dX11_same_56 (by first | assumption | exact ma_up_s _ _ _ | exact (ma_up_n (by decide)).trans (by assumption) | exact ((ma_up_n (by decide)).trans ((ma_up_n (by decide)).trans ((ma_up_n (by decide)).trans hx))) | exact ((ma_up_n (by decide)).trans ((ma_up_n (by decide)).trans ((ma_up_n (by decide)).trans h7))) | exact ((ma_up_n (by decide)).trans ((ma_up_n (by decide)).trans ((ma_up_n (by decide)).trans h1)))) (by omega) (by omega) (by omega) ?_
      rw [show KO 1 = some 10 from rfl]
      refine ma_cV [_] dX11_same_57 wX8_isLike lX11_262 iX8_isLike sX8_isLike rfl (by first | assumption | exact ma_up_s _ _ _ | exact (ma_up_n (by decide)).trans (by assumption) | exact ((ma_up_n (by decide)).trans ((ma_up_n (by decide)).trans ((ma_up_n (by decide)).trans hx))) | exact ((ma_up_n (by decide)).trans ((ma_up_n (by decide)).trans ((ma_up_n (by decide)).trans h7))) | exact ((ma_up_n (by decide)).trans ((ma_up_n (by decide)).trans ((ma_up_n (by decide)).trans h1)))) (Nat.le_of_ble_eq_true rfl) ?_
      refine c_X8_isLike ((ma_up_n (by decide)).trans ((ma_up_n (by decide)).trans ((ma_up_n (by decide)).trans h1))) ((ma_up_n (by decide)).trans ((ma_up_n (by decide)).trans ((ma_up_n (by decide)).trans h2))) ((ma_up_n (by decide)).trans ((ma_up_n (by decide)).trans ((ma_up_n (by decide)).trans h10))) ((ma_up_n (by decide)).trans ((ma_up_n (by decide)).trans ((ma_up_n (by decide)).trans h11))) (by omega) (by unfold rg; omega) rG rF2 (fun y => ?_) (fun y => ?_)
      · -- k1
        refine ma_rif_eq 67 dX11_same_60 rfl (by decide) (fun c60 => absurd c60 (by decide)) (fun c60 => ?_)
        refine ma_iconst dX11_same_63 ?_
        refine ma_goto 68 dX11_same_64 rfl ?_
        exact ma_iret dX11_same_68 rfl (K2 rfl c17 1 (Or.inl ⟨rfl, y⟩))
      · -- k0
        refine ma_rif_eq 67 dX11_same_60 rfl (by decide) (fun c60 => ?_) (fun c60 => absurd c60 (by decide))
        refine ma_iconst dX11_same_67 ?_
        exact ma_iret dX11_same_68 rfl (K2 rfl c17 0 (Or.inr ⟨rfl, y⟩))
    · -- 20
      refine ma_bipush dX11_same_20 ?_
      exact ma_iret dX11_same_22 rfl (Km ⟨by decide, by decide⟩ c17)
  · -- out
    refine ma_iload_n dX11_same_0 rfl ?_
    refine ma_rif_lt 9 dX11_same_1 rfl (by constructor <;> omega) (fun c1 => ?_) (fun c1 => ?_)
    · -- 9
      refine ma_iconst dX11_same_9 ?_
      exact ma_iret dX11_same_10 rfl (K0 (by omega))
    · -- 4
      refine ma_iload_n dX11_same_4 rfl ?_
      refine ma_iconst dX11_same_5 ?_
      refine ma_rcmp_lt 11 dX11_same_6 rfl (by constructor <;> omega) (by constructor <;> omega) (fun c6 => ?_) (fun c6 => ?_)
      · -- 11
        exact absurd c1 (by omega)
      · -- 9
        refine ma_iconst dX11_same_9 ?_
        exact ma_iret dX11_same_10 rfl (K0 (by omega))
