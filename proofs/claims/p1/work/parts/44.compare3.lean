set_option maxHeartbeats 2000000 in
theorem c_X2_compare {h : ma_H} {b g nx d : Nat} {t f p : Int} {G L0 : Int → Int} {Q : Option ma_V → ma_H → Nat → Prop} (hN : ∀ L A B C, nh h L A B C 39 = co 2 [vr 40, vr 41, vr 42, vr 43]) (hB : ∀ L A B C, nh h L A B C b = co 8 [vi t, vr g]) (hE : ∀ L A B C, nh h L A B C g = ci 32 G) (hG : VG t G) (hC : CN t G) (hf : 0 ≤ f ∧ f < t) (hp : 0 ≤ p ∧ p < 24) (hL0 : ∀ j, 0 ≤ j → j < 32 → rg (L0 j))
    (K1 : ∀ L A B C, (∀ j, 0 ≤ j → j < 32 → L j = L0 j) → (∃ k, 0 ≤ k ∧ k < 4 * t ∧ (∀ j, 0 ≤ j → j < k → brow G f p j = L0 j) ∧ L0 k < brow G f p k) → Q (some (vi 1)) (nh h L A B C) nx)
    (K0 : ∀ L A B C, (∀ j, 0 ≤ j → j < 32 → L j = L0 j) → (∀ j, 0 ≤ j → j < 4 * t → brow G f p j = L0 j) → Q (some (vi 0)) (nh h L A B C) nx)
    (Km : ∀ L A B C, (∀ j, 0 ≤ j → j < 4 * t → L j = brow G f p j) → (∀ j, 4 * t ≤ j → j < 32 → L j = L0 j) → (∃ k, 0 ≤ k ∧ k < 4 * t ∧ (∀ j, 0 ≤ j → j < k → brow G f p j = L0 j) ∧ brow G f p k < L0 k) → Q (some (vi (-1))) (nh h L A B C) nx) {A B C : Int → Int} : ma_Ct mX2_compare (d + 1) 0 0 [vr 39, vr b, vi f, vi p] (nh h L0 A B C) nx Q := by
  have ht := hG.1
  refine ma_Ct.of (by decide +kernel) (Nat.le_of_ble_eq_true rfl) ?_
  refine ma_aload_n dX2_compare_0 rfl ?_
  refine ma_getf dX2_compare_1 fX2_15 (by first | exact nh_40 | exact nh_41 | exact nh_42 | exact nh_43 | exact hN _ _ _ _ | exact hB _ _ _ _ | exact hE _ _ _ _) (by rfl) ?_
  refine ma_iconst dX2_compare_4 ?_
  refine ma_cS [_, _] dX2_compare_5 wJ7_fill_53178 lX2_25 tJ7_fill_53178 (Nat.le_of_ble_eq_true rfl) ?_
  refine c_J7_fill_53178 nh_41 (by omega) ?_
  rw [nh_p41]
  refine ma_aload_n dX2_compare_8 rfl ?_
  refine ma_getf dX2_compare_9 fX2_15 (by first | exact nh_40 | exact nh_41 | exact nh_42 | exact nh_43 | exact hN _ _ _ _ | exact hB _ _ _ _ | exact hE _ _ _ _) (by rfl) ?_
  refine ma_iload_n dX2_compare_12 rfl ?_
  refine ma_iconst dX2_compare_13 ?_
  refine ma_iast dX2_compare_14 (by first | exact nh_40 | exact nh_41 | exact nh_42 | exact nh_43 | exact hN _ _ _ _ | exact hB _ _ _ _ | exact hE _ _ _ _) (by omega) (by omega) (by omega) ?_
  rw [nh_p41]
  refine ma_aload_n dX2_compare_15 rfl ?_
  refine ma_getf dX2_compare_16 fX2_18 (by first | exact nh_40 | exact nh_41 | exact nh_42 | exact nh_43 | exact hN _ _ _ _ | exact hB _ _ _ _ | exact hE _ _ _ _) (by rfl) ?_
  refine ma_iconst dX2_compare_19 ?_
  refine ma_iload_n dX2_compare_20 rfl ?_
  refine ma_iast dX2_compare_21 (by first | exact nh_40 | exact nh_41 | exact nh_42 | exact nh_43 | exact hN _ _ _ _ | exact hB _ _ _ _ | exact hE _ _ _ _) (by omega) (by omega) (by omega) ?_
  rw [nh_p42]
  refine ma_aload_n dX2_compare_22 rfl ?_
  refine ma_getf dX2_compare_23 fX2_21 (by first | exact nh_40 | exact nh_41 | exact nh_42 | exact nh_43 | exact hN _ _ _ _ | exact hB _ _ _ _ | exact hE _ _ _ _) (by rfl) ?_
  refine ma_iload_n dX2_compare_26 rfl ?_
  refine ma_iload_n dX2_compare_27 rfl ?_
  refine ma_iast dX2_compare_28 (by first | exact nh_40 | exact nh_41 | exact nh_42 | exact nh_43 | exact hN _ _ _ _ | exact hB _ _ _ _ | exact hE _ _ _ _) (by omega) (by omega) (by omega) ?_
  rw [nh_p43]
  refine ma_iconst dX2_compare_29 ?_
  refine ma_istoreN dX2_compare_30 (by decide) rfl ?_
  refine ma_iconst dX2_compare_32 ?_
  refine ma_istoreN dX2_compare_33 (by decide) rfl ?_
  refine ma_iconst dX2_compare_35 ?_
  refine ma_istoreN dX2_compare_36 (by decide) rfl ?_
  exact l_X2_compare hN hB hE hG hC hf hp hL0 K1 K0 Km 40 0 0 1 L0 _ _ _ _ _ _ _ _ _ (by omega) (by omega) (by omega) (Or.inl ⟨rfl, fun _ _ _ => rfl, fun j j0 j1 => by omega⟩) ⟨fun s s0 s1 => rfl, fun j j0 j1 => (by have j1 : j < 1 := j1; show uf B 0 f j = uf (fun _ => 0) 0 f j; rw [show j = 0 by omega, uf_s, uf_s]), fun s s0 s1 s2 => (by have s2 : 0 ≤ uf (fun _ => -1) f 0 s := s2; show uf C f p s = uf (fun _ => 0) f p s; rcases Decidable.em (s = f) with z | z <;> first | (rw [z, uf_s, uf_s]; done) | (rw [uf_n z] at s2; omega))⟩ rfl
