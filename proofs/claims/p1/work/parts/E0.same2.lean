theorem c_X12_same {h : ma_H} {nx d : Nat} {x : Int} {I : Nat → Int} {A U b f F0 R0 fi0 : Int → Int} {Q : Option ma_V → ma_H → Nat → Prop} (h74 : h 74 = ci 33 A) (h105 : h 105 = ci 66 U) (h106 : h 106 = cz 2 b) (hb : ∀ j, 0 ≤ j → j ≤ 1 → b j = 0 ∨ b j = 1) (rA : ∀ j, 0 ≤ j → j < 33 → rg (A j)) (rU : ∀ j, 0 ≤ j → j < 66 → rg (U j)) (rx : rg x) (K0 : ¬ (0 ≤ x ∧ x ≤ 1) → Q (some (vi (-1))) (rh h (iu I 5 0) f F0 R0 fi0) nx) (K2 : 0 ≤ x ∧ x ≤ 1 → b x = 0 → Q (some (vi (-2))) (rh h (iu I 5 0) f F0 R0 fi0) nx) (K : 0 ≤ x ∧ x ≤ 1 → b x ≠ 0 → ∀ I' fl, IR I I' 1 → (fl = 1 ∧ (∀ j, 0 ≤ j → j < 33 → A j = U (33 * x + j))) ∨ (fl = 0 ∧ ¬ (∀ j, 0 ≤ j → j < 33 → A j = U (33 * x + j))) → Q (some (vi fl)) (rh h I' (uf f 0 (U (33 * x))) F0 R0 fi0) nx) : ma_Ct mX12_same (d + 1) 0 0 [vr 73, vi x] (rh h I f F0 R0 fi0) nx Q := by
  refine ma_Ct.of (by decide +kernel) (Nat.le_of_ble_eq_true rfl) ?_
  refine ma_aload_n dX12_same_0 rfl ?_
  refine ma_iconst dX12_same_1 ?_
  refine ma_puti dX12_same_2 fX12_128 (by first | exact rh_73 | exact ((rh_n (by decide)).trans h74) | exact ((rh_n (by decide)).trans h105) | exact ((rh_n (by decide)).trans h106)) (Nat.le_of_ble_eq_true rfl) ?_
  rw [mo_5, rh_p]
  refine ma_iload_n dX12_same_5 rfl ?_
  refine ma_iconst dX12_same_6 ?_
  refine ma_iconst dX12_same_7 ?_
  refine ma_cS [_, _, _] dX12_same_8 wX12_in lX12_179 tX12_in (Nat.le_of_ble_eq_true rfl) ?_
  refine c_X12_in rx (by unfold rg; decide) (by unfold rg; decide) (fun z0 z1 => ?_) (fun z => ?_)
  · -- k1
    refine ma_rif_ne 16 dX12_same_11 rfl (by decide) (fun c11 => ?_) (fun c11 => absurd c11 (by decide))
    refine ma_aload_n dX12_same_16 rfl ?_
    refine ma_getf dX12_same_17 fX12_108 (by first | exact rh_73 | exact ((rh_n (by decide)).trans h74) | exact ((rh_n (by decide)).trans h105) | exact ((rh_n (by decide)).trans h106)) (by rfl) ?_
    refine ma_iload_n dX12_same_20 rfl ?_
    refine ma_zald dX12_same_21 (by first | exact rh_73 | exact ((rh_n (by decide)).trans h74) | exact ((rh_n (by decide)).trans h105) | exact ((rh_n (by decide)).trans h106)) (by omega) (by omega) (by omega) ?_
    refine ma_rif_ne 28 dX12_same_22 rfl (by rcases hb x z0 z1 with z | z <;> rw [z] <;> decide) (fun c22 => ?_) (fun c22 => ?_)
    · -- 28
      refine ma_aload_n dX12_same_28 rfl ?_
      refine ma_iconst dX12_same_29 ?_
      refine ma_puti dX12_same_30 fX12_132 (by first | exact rh_73 | exact ((rh_n (by decide)).trans h74) | exact ((rh_n (by decide)).trans h105) | exact ((rh_n (by decide)).trans h106)) (Nat.le_of_ble_eq_true rfl) ?_
      rw [mo_4, rh_p]
      refine ma_aload_n dX12_same_33 rfl ?_
      refine ma_aload_n dX12_same_34 rfl ?_
      refine ma_getf dX12_same_35 fX12_105 (by first | exact rh_73 | exact ((rh_n (by decide)).trans h74) | exact ((rh_n (by decide)).trans h105) | exact ((rh_n (by decide)).trans h106)) (by rfl) ?_
      refine ma_bipush dX12_same_38 ?_
      refine ma_iload_n dX12_same_40 rfl ?_
      refine ma_imul dX12_same_41 ?_
      refine ma_iald dX12_same_42 (by first | exact rh_73 | exact ((rh_n (by decide)).trans h74) | exact ((rh_n (by decide)).trans h105) | exact ((rh_n (by decide)).trans h106)) (by omega) (by omega) (by omega) ?_
      refine ma_i2l dX12_same_43 ?_
      refine ma_cV [_] dX12_same_44 wX12_tell lX12_231 iX12_tell sX12_tell rfl (by first | exact rh_73 | exact ((rh_n (by decide)).trans h74) | exact ((rh_n (by decide)).trans h105) | exact ((rh_n (by decide)).trans h106)) (Nat.le_of_ble_eq_true rfl) ?_
      refine r_tell 0 rfl (by decide) (iw_of (rU (33 * x) (by omega) (by omega)).1 (rU (33 * x) (by omega) (by omega)).2) ?_
      refine ma_aload_n dX12_same_47 rfl ?_
      refine ma_aload_n dX12_same_48 rfl ?_
      refine ma_getf dX12_same_49 fX12_9 (by first | exact rh_73 | exact ((rh_n (by decide)).trans h74) | exact ((rh_n (by decide)).trans h105) | exact ((rh_n (by decide)).trans h106)) (by rfl) ?_
      refine ma_iload_n dX12_same_52 rfl ?_
      refine ma_cV [_, _] dX12_same_53 wX12_isAsKept lX12_485 iX12_isAsKept sX12_isAsKept rfl (by first | exact rh_73 | exact ((rh_n (by decide)).trans h74) | exact ((rh_n (by decide)).trans h105) | exact ((rh_n (by decide)).trans h106)) (Nat.le_of_ble_eq_true rfl) ?_
      refine c_X12_isAsKept rh_73 ((rh_n (by decide)).trans h74) ((rh_n (by decide)).trans h105) ⟨z0, z1⟩ rA rU (fun y => ?_) (fun y => ?_)
      · -- k1
        refine ma_rif_eq 63 dX12_same_56 rfl (by decide) (fun c56 => absurd c56 (by decide)) (fun c56 => ?_)
        refine ma_iconst dX12_same_59 ?_
        refine ma_goto 64 dX12_same_60 rfl ?_
        exact ma_iret dX12_same_64 rfl (K ⟨z0, z1⟩ c22 _ 1 ⟨rfl, rfl, fun k a b c => by simp only [iu, if_neg a, if_neg b, if_neg c]⟩ (Or.inl ⟨rfl, y⟩))
      · -- k0
        refine ma_rif_eq 63 dX12_same_56 rfl (by decide) (fun c56 => ?_) (fun c56 => absurd c56 (by decide))
        refine ma_iconst dX12_same_63 ?_
        exact ma_iret dX12_same_64 rfl (K ⟨z0, z1⟩ c22 _ 0 ⟨rfl, rfl, fun k a b c => by simp only [iu, if_neg a, if_neg b, if_neg c]⟩ (Or.inr ⟨rfl, y⟩))
    · -- 25
      refine ma_bipush dX12_same_25 ?_
      exact ma_iret dX12_same_27 rfl (K2 ⟨z0, z1⟩ c22)
  · -- k0
    refine ma_rif_ne 16 dX12_same_11 rfl (by decide) (fun c11 => absurd c11 (by decide)) (fun c11 => ?_)
    refine ma_iconst dX12_same_14 ?_
    exact ma_iret dX12_same_15 rfl (K0 z)
