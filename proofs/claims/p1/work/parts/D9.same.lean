theorem l_ak2 {h : ma_H} {a nx d : Nat} {x : Int} {A U : Int → Int} {I : Nat → Int} {Q : Option ma_V → ma_H → Nat → Prop} (hM : h 73 = co 12 (mo I)) (ha : h a = ci 33 A) (h105 : h 105 = ci 66 U) (x0 : 0 ≤ x ∧ x ≤ 1) (rA : ∀ j, 0 ≤ j → j < 33 → rg (A j)) (rU : ∀ j, 0 ≤ j → j < 66 → rg (U j)) (K1 : (∀ j, 0 ≤ j → j < 33 → A j = U (33 * x + j)) → Q (some (vi 1)) h nx) (K0 : ¬ (∀ j, 0 ≤ j → j < 33 → A j = U (33 * x + j)) → Q (some (vi 0)) h nx) :
    ∀ (m : Nat) (i : Int), (0 ≤ i) → (i ≤ 33) → (33 - i < m) → (∀ j, 0 ≤ j → j < i → A j = U (33 * x + j)) → ma_J none mX12_isAsKept d 0 0 2 [some (vr 73), some (vr a), some (vi x), some (vi i)] [] h nx Q := by
  intro m
  induction m with
  | zero => intro i i0 i1 hm h1; omega
  | succ m ih =>
    intro i i0 i1 hm h1
    refine ma_iload_n dX12_isAsKept_2 rfl ?_
    refine ma_bipush dX12_isAsKept_3 ?_
    refine ma_rcmp_ge 33 dX12_isAsKept_5 rfl (by constructor <;> omega) (by constructor <;> omega) (fun c5 => ?_) (fun c5 => ?_)
    · -- 33
      refine ma_iconst dX12_isAsKept_33 ?_
      exact ma_zret dX12_isAsKept_34 rfl (Or.inr rfl) (K1 (fun j j0 j1 => h1 j j0 (by omega)))
    · -- 8
      refine ma_aload_n dX12_isAsKept_8 rfl ?_
      refine ma_iload_n dX12_isAsKept_9 rfl ?_
      refine ma_iald dX12_isAsKept_10 (by assumption) (by omega) (by omega) (by omega) ?_
      refine ma_aload_n dX12_isAsKept_11 rfl ?_
      refine ma_getf dX12_isAsKept_12 fX12_105 (by assumption) (by rfl) ?_
      refine ma_bipush dX12_isAsKept_15 ?_
      refine ma_iload_n dX12_isAsKept_17 rfl ?_
      refine ma_imul dX12_isAsKept_18 ?_
      refine ma_iload_n dX12_isAsKept_19 rfl ?_
      refine ma_iadd dX12_isAsKept_20 ?_
      refine ma_iald dX12_isAsKept_21 (by assumption) (by omega) (by omega) (by omega) ?_
      refine ma_rcmp_eq 27 dX12_isAsKept_22 rfl (rA _ (by omega) (by omega)) (rU _ (by omega) (by omega)) (fun c22 => ?_) (fun c22 => ?_)
      · -- 27
        refine ma_iincN dX12_isAsKept_27 rfl (by decide) rfl ?_
        refine ma_goto 2 dX12_isAsKept_30 rfl ?_
        refine ih (i + 1) (by omega) (by omega) (by omega) (fun j j0 j1 => ?_)
        rcases Int.lt_or_eq_of_le (show j ≤ i by omega) with e | e
        · exact h1 j j0 e
        · rw [e]; exact c22
      · -- 25
        refine ma_iconst dX12_isAsKept_25 ?_
        exact ma_zret dX12_isAsKept_26 rfl (Or.inl rfl) (K0 (fun z => c22 (z i i0 (by omega))))
theorem c_X12_isAsKept {h : ma_H} {a nx d : Nat} {x : Int} {A U : Int → Int} {I : Nat → Int} {Q : Option ma_V → ma_H → Nat → Prop} (hM : h 73 = co 12 (mo I)) (ha : h a = ci 33 A) (h105 : h 105 = ci 66 U) (x0 : 0 ≤ x ∧ x ≤ 1) (rA : ∀ j, 0 ≤ j → j < 33 → rg (A j)) (rU : ∀ j, 0 ≤ j → j < 66 → rg (U j)) (K1 : (∀ j, 0 ≤ j → j < 33 → A j = U (33 * x + j)) → Q (some (vi 1)) h nx) (K0 : ¬ (∀ j, 0 ≤ j → j < 33 → A j = U (33 * x + j)) → Q (some (vi 0)) h nx) : ma_Ct mX12_isAsKept d 0 0 [vr 73, vr a, vi x] h nx Q := by
  refine ma_Ct.of (by decide +kernel) (Nat.le_of_ble_eq_true rfl) ?_
  refine ma_iconst dX12_isAsKept_0 ?_
  refine ma_istore_nN dX12_isAsKept_1 (by decide) rfl ?_
  exact l_ak2 hM ha h105 x0 rA rU K1 K0 34 0 (by decide) (by decide) (by decide) (fun j j0 j1 => by omega)
