set_option maxHeartbeats 2000000 in
theorem c_X11_again {h : ma_H} {d : Nat} {t q0 x u1 u2 s : Int} {r1 r2 : ma_V} {G F1 F2 b : Int → Int} {Q : Option ma_V → ma_H → Nat → Prop} (hx : h 0 = co 11 (xo q0)) (h1 : h 1 = co 8 [vi t, vr 2]) (h2 : h 2 = ci 32 G) (h7 : h 7 = cq 2 KO) (h12 : h 12 = cz 2 b) (h8 : h 8 = co 8 [vi u1, vr 9]) (h9 : h 9 = ci 32 F1) (h10 : h 10 = co 8 [vi u2, vr 11]) (h11 : h 11 = ci 32 F2) (rx : rg x) (h13 : h 13 = co 3 [vi s, r1, r2]) (hb0 : b 0 = 0 ∨ b 0 = 1) (hb1 : b 1 = 0 ∨ b 1 = 1) (K0 : ¬ ((0 ≤ x ∧ x < 2) ∧ b x ≠ 0) → Q (some (vi 0)) h 1000000) (K1 : x = 0 → b 0 ≠ 0 → Q (some (vi 1)) (ma_up (ma_up (ma_up h 1 (co 8 [vi u1, vr 2])) 2 (ci 32 F1)) 13 (co 3 [vi 0, r1, r2])) 1000000) (K2 : x = 1 → b 1 ≠ 0 → Q (some (vi 1)) (ma_up (ma_up (ma_up h 1 (co 8 [vi u2, vr 2])) 2 (ci 32 F2)) 13 (co 3 [vi 0, r1, r2])) 1000000) : ma_Ct mX11_again (d + 2) 0 0 [vr 0, vi x] h 1000000 Q := by
  unfold rg at rx
  refine ma_Ct.of (by decide +kernel) (Nat.le_of_ble_eq_true rfl) ?_
  by_cases e0 : x = 0
  · subst e0
    refine ma_iload_n dX11_again_0 rfl ?_
    refine ma_rif_lt 18 dX11_again_1 rfl (by decide) (fun c1 => absurd c1 (by decide)) (fun c1 => ?_)
    refine ma_iload_n dX11_again_4 rfl ?_
    refine ma_iconst dX11_again_5 ?_
    refine ma_rcmp_ge 18 dX11_again_6 rfl (by decide) (by decide) (fun c6 => absurd c6 (by decide)) (fun c6 => ?_)
    refine ma_aload_n dX11_again_9 rfl ?_
    refine ma_getf dX11_again_10 fX11_26 (by first | assumption | exact (ma_up_n (by decide)).trans (by assumption) | exact (ma_up_n (by decide)).trans ((ma_up_n (by decide)).trans (by assumption))) (by rfl) ?_
    refine ma_iload_n dX11_again_13 rfl ?_
    refine ma_zald dX11_again_14 (by first | assumption | exact (ma_up_n (by decide)).trans (by assumption) | exact (ma_up_n (by decide)).trans ((ma_up_n (by decide)).trans (by assumption))) (by omega) (by omega) (by omega) ?_
    refine ma_rif_ne 20 dX11_again_15 rfl (by rcases hb0 with z | z <;> rw [z] <;> decide) (fun c15 => ?_) (fun c15 => ?_)
    · -- 20
      refine ma_aload_n dX11_again_20 rfl ?_
      refine ma_getf dX11_again_21 fX11_10 (by first | assumption | exact (ma_up_n (by decide)).trans (by assumption) | exact (ma_up_n (by decide)).trans ((ma_up_n (by decide)).trans (by assumption))) (by rfl) ?_
      refine ma_aload_n dX11_again_24 rfl ?_
      refine ma_getf dX11_again_25 fX11_22 (by first | assumption | exact (ma_up_n (by decide)).trans (by assumption) | exact (ma_up_n (by decide)).trans ((ma_up_n (by decide)).trans (by assumption))) (by rfl) ?_
      refine ma_iload_n dX11_again_28 rfl ?_
      refine ma_aald dX11_again_29 (by first | assumption | exact (ma_up_n (by decide)).trans (by assumption) | exact (ma_up_n (by decide)).trans ((ma_up_n (by decide)).trans (by assumption))) (by omega) (by omega) (by omega) ?_
      rw [show KO 0 = some 8 from rfl]
      refine ma_cV [_] dX11_again_30 wX8_copy lX11_120 iX8_copy sX8_copy rfl (by first | assumption | exact (ma_up_n (by decide)).trans (by assumption) | exact (ma_up_n (by decide)).trans ((ma_up_n (by decide)).trans (by assumption))) (Nat.le_of_ble_eq_true rfl) ?_
      refine c_X8_copy h1 h2 h8 h9 (by decide) (by decide) (by decide) ?_
      refine ma_aload_n dX11_again_33 rfl ?_
      refine ma_getf dX11_again_34 fX11_33 (by first | assumption | exact (ma_up_n (by decide)).trans (by assumption) | exact (ma_up_n (by decide)).trans ((ma_up_n (by decide)).trans (by assumption))) (by rfl) ?_
      refine ma_iconst dX11_again_37 ?_
      refine ma_puti dX11_again_38 fX11_318 (by first | assumption | exact (ma_up_n (by decide)).trans (by assumption) | exact (ma_up_n (by decide)).trans ((ma_up_n (by decide)).trans (by assumption))) (Nat.le_of_ble_eq_true rfl) ?_
      refine ma_iconst dX11_again_41 ?_
      exact ma_zret dX11_again_42 rfl (Or.inr rfl) (K1 rfl c15)
    · -- 18
      refine ma_iconst dX11_again_18 ?_
      exact ma_zret dX11_again_19 rfl (Or.inl rfl) (K0 (fun z => z.2 c15))
  by_cases e1 : x = 1
  · subst e1
    refine ma_iload_n dX11_again_0 rfl ?_
    refine ma_rif_lt 18 dX11_again_1 rfl (by decide) (fun c1 => absurd c1 (by decide)) (fun c1 => ?_)
    refine ma_iload_n dX11_again_4 rfl ?_
    refine ma_iconst dX11_again_5 ?_
    refine ma_rcmp_ge 18 dX11_again_6 rfl (by decide) (by decide) (fun c6 => absurd c6 (by decide)) (fun c6 => ?_)
    refine ma_aload_n dX11_again_9 rfl ?_
    refine ma_getf dX11_again_10 fX11_26 (by first | assumption | exact (ma_up_n (by decide)).trans (by assumption) | exact (ma_up_n (by decide)).trans ((ma_up_n (by decide)).trans (by assumption))) (by rfl) ?_
    refine ma_iload_n dX11_again_13 rfl ?_
    refine ma_zald dX11_again_14 (by first | assumption | exact (ma_up_n (by decide)).trans (by assumption) | exact (ma_up_n (by decide)).trans ((ma_up_n (by decide)).trans (by assumption))) (by omega) (by omega) (by omega) ?_
    refine ma_rif_ne 20 dX11_again_15 rfl (by rcases hb1 with z | z <;> rw [z] <;> decide) (fun c15 => ?_) (fun c15 => ?_)
    · -- 20
      refine ma_aload_n dX11_again_20 rfl ?_
      refine ma_getf dX11_again_21 fX11_10 (by first | assumption | exact (ma_up_n (by decide)).trans (by assumption) | exact (ma_up_n (by decide)).trans ((ma_up_n (by decide)).trans (by assumption))) (by rfl) ?_
      refine ma_aload_n dX11_again_24 rfl ?_
      refine ma_getf dX11_again_25 fX11_22 (by first | assumption | exact (ma_up_n (by decide)).trans (by assumption) | exact (ma_up_n (by decide)).trans ((ma_up_n (by decide)).trans (by assumption))) (by rfl) ?_
      refine ma_iload_n dX11_again_28 rfl ?_
      refine ma_aald dX11_again_29 (by first | assumption | exact (ma_up_n (by decide)).trans (by assumption) | exact (ma_up_n (by decide)).trans ((ma_up_n (by decide)).trans (by assumption))) (by omega) (by omega) (by omega) ?_
      rw [show KO 1 = some 10 from rfl]
      refine ma_cV [_] dX11_again_30 wX8_copy lX11_120 iX8_copy sX8_copy rfl (by first | assumption | exact (ma_up_n (by decide)).trans (by assumption) | exact (ma_up_n (by decide)).trans ((ma_up_n (by decide)).trans (by assumption))) (Nat.le_of_ble_eq_true rfl) ?_
      refine c_X8_copy h1 h2 h10 h11 (by decide) (by decide) (by decide) ?_
      refine ma_aload_n dX11_again_33 rfl ?_
      refine ma_getf dX11_again_34 fX11_33 (by first | assumption | exact (ma_up_n (by decide)).trans (by assumption) | exact (ma_up_n (by decide)).trans ((ma_up_n (by decide)).trans (by assumption))) (by rfl) ?_
      refine ma_iconst dX11_again_37 ?_
      refine ma_puti dX11_again_38 fX11_318 (by first | assumption | exact (ma_up_n (by decide)).trans (by assumption) | exact (ma_up_n (by decide)).trans ((ma_up_n (by decide)).trans (by assumption))) (Nat.le_of_ble_eq_true rfl) ?_
      refine ma_iconst dX11_again_41 ?_
      exact ma_zret dX11_again_42 rfl (Or.inr rfl) (K2 rfl c15)
    · -- 18
      refine ma_iconst dX11_again_18 ?_
      exact ma_zret dX11_again_19 rfl (Or.inl rfl) (K0 (fun z => z.2 c15))
  · -- out
    refine ma_iload_n dX11_again_0 rfl ?_
    refine ma_rif_lt 18 dX11_again_1 rfl (by constructor <;> omega) (fun c1 => ?_) (fun c1 => ?_)
    · -- 18
      refine ma_iconst dX11_again_18 ?_
      exact ma_zret dX11_again_19 rfl (Or.inl rfl) (K0 (fun z => by omega))
    · -- 4
      refine ma_iload_n dX11_again_4 rfl ?_
      refine ma_iconst dX11_again_5 ?_
      refine ma_rcmp_ge 18 dX11_again_6 rfl (by constructor <;> omega) (by constructor <;> omega) (fun c6 => ?_) (fun c6 => ?_)
      · -- 18
        refine ma_iconst dX11_again_18 ?_
        exact ma_zret dX11_again_19 rfl (Or.inl rfl) (K0 (fun z => by omega))
      · -- 9
        exact absurd c1 (by omega)
theorem l_ag27 {h : ma_H} {nx d : Nat} {x : Int} {U : Int → Int} {I : Nat → Int} {Q : Option ma_V → ma_H → Nat → Prop} (hM : h 73 = co 12 (mo I)) (h105 : h 105 = ci 66 U) (x0 : 0 ≤ x ∧ x ≤ 1) (K : ∀ V : Int → Int, (∀ j, 0 ≤ j → j < 33 → V j = U (33 * x + j)) → Q (some (vi 1)) (ma_up (ma_up h 74 (ci 33 V)) 73 (co 12 (mo (iu I 40 0)))) nx) :
    ∀ (m : Nat) (i : Int) (V : Int → Int), (0 ≤ i) → (i ≤ 33) → (33 - i < m) → (∀ j, 0 ≤ j → j < i → V j = U (33 * x + j)) → ma_J none mX12_again (d + 1) 0 0 27 [some (vr 73), some (vi x), some (vi i)] [] (ma_up h 74 (ci 33 V)) nx Q := by
  intro m
  induction m with
  | zero => intro i V i0 i1 hm h1; omega
  | succ m ih =>
    intro i V i0 i1 hm h1
    refine ma_iload_n dX12_again_27 rfl ?_
    refine ma_bipush dX12_again_28 ?_
    refine ma_rcmp_ge 56 dX12_again_30 rfl (by constructor <;> omega) (by constructor <;> omega) (fun c30 => ?_) (fun c30 => ?_)
    · -- 56
      refine ma_aload_n dX12_again_56 rfl ?_
      refine ma_iconst dX12_again_57 ?_
      refine ma_puti dX12_again_58 fX12_437 (by first | assumption | exact ma_up_s _ _ _ | exact (ma_up_n (by decide)).trans (by assumption) | exact (ma_up_n (by decide)).trans (ma_up_s _ _ _)) (Nat.le_of_ble_eq_true rfl) ?_
      rw [mo_40]
      refine ma_iconst dX12_again_61 ?_
      have e : i = 33 := by omega
      subst e
      exact ma_zret dX12_again_62 rfl (Or.inr rfl) (K V h1)
    · -- 33
      refine ma_aload_n dX12_again_33 rfl ?_
      refine ma_getf dX12_again_34 fX12_9 (by first | assumption | exact ma_up_s _ _ _ | exact (ma_up_n (by decide)).trans (by assumption) | exact (ma_up_n (by decide)).trans (ma_up_s _ _ _)) (by rfl) ?_
      refine ma_iload_n dX12_again_37 rfl ?_
      refine ma_aload_n dX12_again_38 rfl ?_
      refine ma_getf dX12_again_39 fX12_105 (by first | assumption | exact ma_up_s _ _ _ | exact (ma_up_n (by decide)).trans (by assumption) | exact (ma_up_n (by decide)).trans (ma_up_s _ _ _)) (by rfl) ?_
      refine ma_bipush dX12_again_42 ?_
      refine ma_iload_n dX12_again_44 rfl ?_
      refine ma_imul dX12_again_45 ?_
      refine ma_iload_n dX12_again_46 rfl ?_
      refine ma_iadd dX12_again_47 ?_
      refine ma_iald dX12_again_48 (by first | assumption | exact ma_up_s _ _ _ | exact (ma_up_n (by decide)).trans (by assumption) | exact (ma_up_n (by decide)).trans (ma_up_s _ _ _)) (by omega) (by omega) (by omega) ?_
      refine ma_iast dX12_again_49 (by first | assumption | exact ma_up_s _ _ _ | exact (ma_up_n (by decide)).trans (by assumption) | exact (ma_up_n (by decide)).trans (ma_up_s _ _ _)) (by omega) (by omega) (by omega) ?_
      rw [ma_up_up]
      refine ma_iincN dX12_again_50 rfl (by decide) rfl ?_
      refine ma_goto 27 dX12_again_53 rfl ?_
      refine ih (i + 1) _ (by omega) (by omega) (by omega) (fun j j0 j1 => ?_)
      rcases Int.lt_or_eq_of_le (show j ≤ i by omega) with e | e
      · rw [uf_n (by omega)]
        exact h1 j j0 e
      · rw [e, uf_s]
theorem c_X12_again {h : ma_H} {nx d : Nat} {x : Int} {A U b : Int → Int} {I : Nat → Int} {Q : Option ma_V → ma_H → Nat → Prop} (hM : h 73 = co 12 (mo I)) (h74 : h 74 = ci 33 A) (h105 : h 105 = ci 66 U) (h106 : h 106 = cz 2 b) (hb : ∀ j, 0 ≤ j → j ≤ 1 → b j = 0 ∨ b j = 1) (rx : rg x) (K0 : ¬ ((0 ≤ x ∧ x ≤ 1) ∧ b x ≠ 0) → Q (some (vi 0)) (ma_up h 73 (co 12 (mo (iu I 5 0)))) nx) (K : 0 ≤ x ∧ x ≤ 1 → b x ≠ 0 → ∀ V : Int → Int, (∀ j, 0 ≤ j → j < 33 → V j = U (33 * x + j)) → Q (some (vi 1)) (ma_up (ma_up (ma_up h 73 (co 12 (mo (iu I 5 0)))) 74 (ci 33 V)) 73 (co 12 (mo (iu (iu I 5 0) 40 0)))) nx) : ma_Ct mX12_again (d + 1) 0 0 [vr 73, vi x] h nx Q := by
  refine ma_Ct.of (by decide +kernel) (Nat.le_of_ble_eq_true rfl) ?_
  refine ma_aload_n dX12_again_0 rfl ?_
  refine ma_iconst dX12_again_1 ?_
  refine ma_puti dX12_again_2 fX12_128 (by first | assumption | exact ma_up_s _ _ _ | exact (ma_up_n (by decide)).trans (by assumption) | exact (ma_up_n (by decide)).trans (ma_up_s _ _ _)) (Nat.le_of_ble_eq_true rfl) ?_
  rw [mo_5]
  refine ma_iload_n dX12_again_5 rfl ?_
  refine ma_iconst dX12_again_6 ?_
  refine ma_iconst dX12_again_7 ?_
  refine ma_cS [_, _, _] dX12_again_8 wX12_in lX12_179 tX12_in (Nat.le_of_ble_eq_true rfl) ?_
  refine c_X12_in rx (by unfold rg; decide) (by unfold rg; decide) (fun z0 z1 => ?_) (fun z => ?_)
  · -- k1
    refine ma_rif_eq 23 dX12_again_11 rfl (by decide) (fun c11 => absurd c11 (by decide)) (fun c11 => ?_)
    refine ma_aload_n dX12_again_14 rfl ?_
    refine ma_getf dX12_again_15 fX12_108 (by first | assumption | exact ma_up_s _ _ _ | exact (ma_up_n (by decide)).trans (by assumption) | exact (ma_up_n (by decide)).trans (ma_up_s _ _ _)) (by rfl) ?_
    refine ma_iload_n dX12_again_18 rfl ?_
    refine ma_zald dX12_again_19 (by first | assumption | exact ma_up_s _ _ _ | exact (ma_up_n (by decide)).trans (by assumption) | exact (ma_up_n (by decide)).trans (ma_up_s _ _ _)) (by omega) (by omega) (by omega) ?_
    refine ma_rif_ne 25 dX12_again_20 rfl (by rcases hb x z0 z1 with z | z <;> rw [z] <;> decide) (fun c20 => ?_) (fun c20 => ?_)
    · -- 25
      refine ma_iconst dX12_again_25 ?_
      refine ma_istore_nN dX12_again_26 (by decide) rfl ?_
      refine cast (congrArg (fun g => ma_J none mX12_again (d + 1) 0 0 27 [some (vr 73), some (vi x), some (vi 0)] [] g nx Q) (ma_up_id (h := (ma_up h 73 (co 12 (mo (iu I 5 0))))) ((ma_up_n (by decide)).trans h74))) ?_
      exact l_ag27 (U := U) (ma_up_s _ _ _) ((ma_up_n (by decide)).trans h105) ⟨z0, z1⟩ (fun V v1 => K ⟨z0, z1⟩ c20 V v1) 34 0 A (by decide) (by decide) (by decide) (fun j j0 j1 => by omega)
    · -- 23
      refine ma_iconst dX12_again_23 ?_
      first | exact ma_zret dX12_again_24 rfl (Or.inl rfl) (K0 (fun y => y.2 c20)) | exact ma_zret dX12_again_24 rfl (Or.inl rfl) (K0 (fun y => z y.1))
  · -- k0
    refine ma_rif_eq 23 dX12_again_11 rfl (by decide) (fun c11 => ?_) (fun c11 => absurd c11 (by decide))
    refine ma_iconst dX12_again_23 ?_
    first | exact ma_zret dX12_again_24 rfl (Or.inl rfl) (K0 (fun y => y.2 c20)) | exact ma_zret dX12_again_24 rfl (Or.inl rfl) (K0 (fun y => z y.1))
