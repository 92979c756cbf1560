/-- the places of what is kept -/
def KO : Int → Option Nat := uf (uf (fun _ => none) 0 (some 8)) 1 (some 10)
set_option maxHeartbeats 2000000 in
theorem c_X11_keep {h : ma_H} {d : Nat} {t q0 x u1 u2 : Int} {G F1 F2 b : Int → Int} {Q : Option ma_V → ma_H → Nat → Prop} (hx : h 0 = co 11 (xo q0)) (h1 : h 1 = co 8 [vi t, vr 2]) (h2 : h 2 = ci 32 G) (h7 : h 7 = cq 2 KO) (h12 : h 12 = cz 2 b) (h8 : h 8 = co 8 [vi u1, vr 9]) (h9 : h 9 = ci 32 F1) (h10 : h 10 = co 8 [vi u2, vr 11]) (h11 : h 11 = ci 32 F2) (rx : rg x) (K0 : ¬ (0 ≤ x ∧ x < 2) → Q (some (vi 0)) h 1000000) (K1 : x = 0 → Q (some (vi 1)) (ma_up (ma_up (ma_up h 8 (co 8 [vi t, vr 9])) 9 (ci 32 G)) 12 (cz 2 (uf b 0 1))) 1000000) (K2 : x = 1 → Q (some (vi 1)) (ma_up (ma_up (ma_up h 10 (co 8 [vi t, vr 11])) 11 (ci 32 G)) 12 (cz 2 (uf b 1 1))) 1000000) : ma_Ct mX11_keep (d + 2) 0 0 [vr 0, vi x] h 1000000 Q := by
  unfold rg at rx
  refine ma_Ct.of (by decide +kernel) (Nat.le_of_ble_eq_true rfl) ?_
  by_cases e0 : x = 0
  · subst e0
    refine ma_iload_n dX11_keep_0 rfl ?_
    refine ma_rif_lt 9 dX11_keep_1 rfl (by decide) (fun c1 => absurd c1 (by decide)) (fun c1 => ?_)
    refine ma_iload_n dX11_keep_4 rfl ?_
    refine ma_iconst dX11_keep_5 ?_
    refine ma_rcmp_lt 11 dX11_keep_6 rfl (by decide) (by decide) (fun c6 => ?_) (fun c6 => absurd c6 (by decide))
    refine ma_aload_n dX11_keep_11 rfl ?_
    refine ma_getf dX11_keep_12 fX11_22 (by first | assumption | exact (ma_up_n (by decide)).trans (by assumption) | exact (ma_up_n (by decide)).trans ((ma_up_n (by decide)).trans (by assumption))) (by rfl) ?_
    refine ma_iload_n dX11_keep_15 rfl ?_
    refine ma_aald dX11_keep_16 (by first | assumption | exact (ma_up_n (by decide)).trans (by assumption) | exact (ma_up_n (by decide)).trans ((ma_up_n (by decide)).trans (by assumption))) (by omega) (by omega) (by omega) ?_
    rw [show KO 0 = some 8 from rfl]
    refine ma_aload_n dX11_keep_17 rfl ?_
    refine ma_getf dX11_keep_18 fX11_10 (by first | assumption | exact (ma_up_n (by decide)).trans (by assumption) | exact (ma_up_n (by decide)).trans ((ma_up_n (by decide)).trans (by assumption))) (by rfl) ?_
    refine ma_cV [_] dX11_keep_21 wX8_copy lX11_120 iX8_copy sX8_copy rfl (by first | assumption | exact (ma_up_n (by decide)).trans (by assumption) | exact (ma_up_n (by decide)).trans ((ma_up_n (by decide)).trans (by assumption))) (Nat.le_of_ble_eq_true rfl) ?_
    refine c_X8_copy h8 h9 h1 h2 (by decide) (by decide) (by decide) ?_
    refine ma_aload_n dX11_keep_24 rfl ?_
    refine ma_getf dX11_keep_25 fX11_26 (by first | assumption | exact (ma_up_n (by decide)).trans (by assumption) | exact (ma_up_n (by decide)).trans ((ma_up_n (by decide)).trans (by assumption))) (by rfl) ?_
    refine ma_iload_n dX11_keep_28 rfl ?_
    refine ma_iconst dX11_keep_29 ?_
    refine ma_zast dX11_keep_30 (by first | assumption | exact (ma_up_n (by decide)).trans (by assumption) | exact (ma_up_n (by decide)).trans ((ma_up_n (by decide)).trans (by assumption))) (by omega) (by omega) (by omega) ?_
    refine ma_iconst dX11_keep_31 ?_
    exact ma_zret dX11_keep_32 rfl (Or.inr rfl) (K1 rfl)
  by_cases e1 : x = 1
  · subst e1
    refine ma_iload_n dX11_keep_0 rfl ?_
    refine ma_rif_lt 9 dX11_keep_1 rfl (by decide) (fun c1 => absurd c1 (by decide)) (fun c1 => ?_)
    refine ma_iload_n dX11_keep_4 rfl ?_
    refine ma_iconst dX11_keep_5 ?_
    refine ma_rcmp_lt 11 dX11_keep_6 rfl (by decide) (by decide) (fun c6 => ?_) (fun c6 => absurd c6 (by decide))
    refine ma_aload_n dX11_keep_11 rfl ?_
    refine ma_getf dX11_keep_12 fX11_22 (by first | assumption | exact (ma_up_n (by decide)).trans (by assumption) | exact (ma_up_n (by decide)).trans ((ma_up_n (by decide)).trans (by assumption))) (by rfl) ?_
    refine ma_iload_n dX11_keep_15 rfl ?_
    refine ma_aald dX11_keep_16 (by first | assumption | exact (ma_up_n (by decide)).trans (by assumption) | exact (ma_up_n (by decide)).trans ((ma_up_n (by decide)).trans (by assumption))) (by omega) (by omega) (by omega) ?_
    rw [show KO 1 = some 10 from rfl]
    refine ma_aload_n dX11_keep_17 rfl ?_
    refine ma_getf dX11_keep_18 fX11_10 (by first | assumption | exact (ma_up_n (by decide)).trans (by assumption) | exact (ma_up_n (by decide)).trans ((ma_up_n (by decide)).trans (by assumption))) (by rfl) ?_
    refine ma_cV [_] dX11_keep_21 wX8_copy lX11_120 iX8_copy sX8_copy rfl (by first | assumption | exact (ma_up_n (by decide)).trans (by assumption) | exact (ma_up_n (by decide)).trans ((ma_up_n (by decide)).trans (by assumption))) (Nat.le_of_ble_eq_true rfl) ?_
    refine c_X8_copy h10 h11 h1 h2 (by decide) (by decide) (by decide) ?_
    refine ma_aload_n dX11_keep_24 rfl ?_
    refine ma_getf dX11_keep_25 fX11_26 (by first | assumption | exact (ma_up_n (by decide)).trans (by assumption) | exact (ma_up_n (by decide)).trans ((ma_up_n (by decide)).trans (by assumption))) (by rfl) ?_
    refine ma_iload_n dX11_keep_28 rfl ?_
    refine ma_iconst dX11_keep_29 ?_
    refine ma_zast dX11_keep_30 (by first | assumption | exact (ma_up_n (by decide)).trans (by assumption) | exact (ma_up_n (by decide)).trans ((ma_up_n (by decide)).trans (by assumption))) (by omega) (by omega) (by omega) ?_
    refine ma_iconst dX11_keep_31 ?_
    exact ma_zret dX11_keep_32 rfl (Or.inr rfl) (K2 rfl)
  · -- out
    refine ma_iload_n dX11_keep_0 rfl ?_
    refine ma_rif_lt 9 dX11_keep_1 rfl (by constructor <;> omega) (fun c1 => ?_) (fun c1 => ?_)
    · -- 9
      refine ma_iconst dX11_keep_9 ?_
      exact ma_zret dX11_keep_10 rfl (Or.inl rfl) (K0 (by omega))
    · -- 4
      refine ma_iload_n dX11_keep_4 rfl ?_
      refine ma_iconst dX11_keep_5 ?_
      refine ma_rcmp_lt 11 dX11_keep_6 rfl (by constructor <;> omega) (by constructor <;> omega) (fun c6 => ?_) (fun c6 => ?_)
      · -- 11
        exact absurd c1 (by omega)
      · -- 9
        refine ma_iconst dX11_keep_9 ?_
        exact ma_zret dX11_keep_10 rfl (Or.inl rfl) (K0 (by omega))
theorem l_kp25 {h : ma_H} {nx d : Nat} {x : Int} {A U : Int → Int} {I : Nat → Int} {Q : Option ma_V → ma_H → Nat → Prop} (hM : h 73 = co 12 (mo I)) (h74 : h 74 = ci 33 A) (x0 : 0 ≤ x ∧ x ≤ 1) (K : ∀ V : Int → Int, (∀ j, 0 ≤ j → j < 33 → V (33 * x + j) = A j) → (∀ j, j < 33 * x ∨ 33 * x + 33 ≤ j → V j = U j) → Q (some (vi 1)) (ma_up h 105 (ci 66 V)) nx) :
    ∀ (m : Nat) (i : Int) (V : Int → Int), (0 ≤ i) → (i ≤ 33) → (33 - i < m) → (∀ j, 0 ≤ j → j < i → V (33 * x + j) = A j) → (∀ j, j < 33 * x ∨ 33 * x + 33 ≤ j → V j = U j) → ma_J none mX12_keep (d + 1) 0 0 25 [some (vr 73), some (vi x), some (vi i)] [] (ma_up h 105 (ci 66 V)) nx Q := by
  intro m
  induction m with
  | zero => intro i V i0 i1 hm h1 h2; omega
  | succ m ih =>
    intro i V i0 i1 hm h1 h2
    refine ma_iload_n dX12_keep_25 rfl ?_
    refine ma_bipush dX12_keep_26 ?_
    refine ma_rcmp_ge 54 dX12_keep_28 rfl (by constructor <;> omega) (by constructor <;> omega) (fun c28 => ?_) (fun c28 => ?_)
    · -- 54
      refine ma_iconst dX12_keep_54 ?_
      have e : i = 33 := by omega
      subst e
      exact ma_zret dX12_keep_55 rfl (Or.inr rfl) (K V h1 h2)
    · -- 31
      refine ma_aload_n dX12_keep_31 rfl ?_
      refine ma_getf dX12_keep_32 fX12_105 (by first | assumption | exact ma_up_s _ _ _ | exact (ma_up_n (by decide)).trans (by assumption) | exact (ma_up_n (by decide)).trans (ma_up_s _ _ _)) (by rfl) ?_
      refine ma_bipush dX12_keep_35 ?_
      refine ma_iload_n dX12_keep_37 rfl ?_
      refine ma_imul dX12_keep_38 ?_
      refine ma_iload_n dX12_keep_39 rfl ?_
      refine ma_iadd dX12_keep_40 ?_
      refine ma_aload_n dX12_keep_41 rfl ?_
      refine ma_getf dX12_keep_42 fX12_9 (by first | assumption | exact ma_up_s _ _ _ | exact (ma_up_n (by decide)).trans (by assumption) | exact (ma_up_n (by decide)).trans (ma_up_s _ _ _)) (by rfl) ?_
      refine ma_iload_n dX12_keep_45 rfl ?_
      refine ma_iald dX12_keep_46 (by first | assumption | exact ma_up_s _ _ _ | exact (ma_up_n (by decide)).trans (by assumption) | exact (ma_up_n (by decide)).trans (ma_up_s _ _ _)) (by omega) (by omega) (by omega) ?_
      refine ma_iast dX12_keep_47 (by first | assumption | exact ma_up_s _ _ _ | exact (ma_up_n (by decide)).trans (by assumption) | exact (ma_up_n (by decide)).trans (ma_up_s _ _ _)) (by omega) (by omega) (by omega) ?_
      rw [ma_up_up]
      refine ma_iincN dX12_keep_48 rfl (by decide) rfl ?_
      refine ma_goto 25 dX12_keep_51 rfl ?_
      refine ih (i + 1) _ (by omega) (by omega) (by omega) (fun j j0 j1 => ?_) (fun j hj => ?_)
      · rcases Int.lt_or_eq_of_le (show j ≤ i by omega) with e | e
        · rw [uf_n (by omega)]
          exact h1 j j0 e
        · rw [e, uf_s]
      · rw [uf_n (by omega)]
        exact h2 j hj
theorem c_X12_keep {h : ma_H} {nx d : Nat} {x : Int} {A U b : Int → Int} {I : Nat → Int} {Q : Option ma_V → ma_H → Nat → Prop} (hM : h 73 = co 12 (mo I)) (h74 : h 74 = ci 33 A) (h105 : h 105 = ci 66 U) (h106 : h 106 = cz 2 b) (rx : rg x) (K0 : ¬ (0 ≤ x ∧ x ≤ 1) → Q (some (vi 0)) (ma_up h 73 (co 12 (mo (iu I 5 0)))) nx) (K : 0 ≤ x ∧ x ≤ 1 → ∀ V : Int → Int, (∀ j, 0 ≤ j → j < 33 → V (33 * x + j) = A j) → (∀ j, j < 33 * x ∨ 33 * x + 33 ≤ j → V j = U j) → Q (some (vi 1)) (ma_up (ma_up (ma_up h 73 (co 12 (mo (iu I 5 0)))) 106 (cz 2 (uf b x 1))) 105 (ci 66 V)) nx) : ma_Ct mX12_keep (d + 1) 0 0 [vr 73, vi x] h nx Q := by
  refine ma_Ct.of (by decide +kernel) (Nat.le_of_ble_eq_true rfl) ?_
  refine ma_aload_n dX12_keep_0 rfl ?_
  refine ma_iconst dX12_keep_1 ?_
  refine ma_puti dX12_keep_2 fX12_128 (by first | assumption | exact ma_up_s _ _ _ | exact (ma_up_n (by decide)).trans (by assumption) | exact (ma_up_n (by decide)).trans (ma_up_s _ _ _)) (Nat.le_of_ble_eq_true rfl) ?_
  rw [mo_5]
  refine ma_iload_n dX12_keep_5 rfl ?_
  refine ma_iconst dX12_keep_6 ?_
  refine ma_iconst dX12_keep_7 ?_
  refine ma_cS [_, _, _] dX12_keep_8 wX12_in lX12_179 tX12_in (Nat.le_of_ble_eq_true rfl) ?_
  refine c_X12_in rx (by unfold rg; decide) (by unfold rg; decide) (fun z0 z1 => ?_) (fun z => ?_)
  · -- k1
    refine ma_rif_ne 16 dX12_keep_11 rfl (by decide) (fun c11 => ?_) (fun c11 => absurd c11 (by decide))
    refine ma_aload_n dX12_keep_16 rfl ?_
    refine ma_getf dX12_keep_17 fX12_108 (by first | assumption | exact ma_up_s _ _ _ | exact (ma_up_n (by decide)).trans (by assumption) | exact (ma_up_n (by decide)).trans (ma_up_s _ _ _)) (by rfl) ?_
    refine ma_iload_n dX12_keep_20 rfl ?_
    refine ma_iconst dX12_keep_21 ?_
    refine ma_zast dX12_keep_22 (by first | assumption | exact ma_up_s _ _ _ | exact (ma_up_n (by decide)).trans (by assumption) | exact (ma_up_n (by decide)).trans (ma_up_s _ _ _)) (by omega) (by omega) (by omega) ?_
    refine ma_iconst dX12_keep_23 ?_
    refine ma_istore_nN dX12_keep_24 (by decide) rfl ?_
    refine cast (congrArg (fun g => ma_J none mX12_keep (d + 1) 0 0 25 [some (vr 73), some (vi x), some (vi 0)] [] g nx Q) (ma_up_id (h := (ma_up (ma_up h 73 (co 12 (mo (iu I 5 0)))) 106 (cz 2 (uf b x 1)))) ((ma_up_n (by decide)).trans ((ma_up_n (by decide)).trans h105)))) ?_
    exact l_kp25 (U := U) ((ma_up_n (by decide)).trans (ma_up_s _ _ _)) ((ma_up_n (by decide)).trans ((ma_up_n (by decide)).trans h74)) ⟨z0, z1⟩ (fun V v1 v2 => K ⟨z0, z1⟩ V v1 v2) 34 0 U (by decide) (by decide) (by decide) (fun j j0 j1 => by omega) (fun j _ => rfl)
  · -- k0
    refine ma_rif_ne 16 dX12_keep_11 rfl (by decide) (fun c11 => absurd c11 (by decide)) (fun c11 => ?_)
    refine ma_iconst dX12_keep_14 ?_
    exact ma_zret dX12_keep_15 rfl (Or.inl rfl) (K0 z)
