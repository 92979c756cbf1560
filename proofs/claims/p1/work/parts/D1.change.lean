theorem l_ch11 {h : ma_H} {a nx d : Nat} {I : Nat → Int} {U : Int → Int} {Q : Option ma_V → ma_H → Nat → Prop} (hM : h 73 = co 12 (mo I)) (K : ∀ V : Int → Int, (∀ j, 0 ≤ j → j < 231 → V j = U (j + 33)) → ma_J none mX12_change (d + 1) 0 0 39 [some (vr 73), some (vr a), some (vi 231)] [] (ma_up h 99 (ci 264 V)) nx Q) :
    ∀ (m : Nat) (i : Int) (V : Int → Int), (0 ≤ i) → (i ≤ 231) → (231 - i < m) → (∀ j, 0 ≤ j → j < i → V j = U (j + 33)) → (∀ j, i ≤ j → j < 264 → V j = U j) → ma_J none mX12_change (d + 1) 0 0 11 [some (vr 73), some (vr a), some (vi i)] [] (ma_up h 99 (ci 264 V)) nx Q := by
  intro m
  induction m with
  | zero => intro i V i0 i1 hm h1 h2; omega
  | succ m ih =>
    intro i V i0 i1 hm h1 h2
    refine ma_iload_n dX12_change_11 rfl ?_
    refine ma_sipush dX12_change_12 ?_
    refine ma_rcmp_ge 39 dX12_change_15 rfl (by constructor <;> omega) (by constructor <;> omega) (fun c15 => ?_) (fun c15 => ?_)
    · -- 39
      have e : i = 231 := by omega
      subst e
      exact K V h1
    · -- 18
      refine ma_aload_n dX12_change_18 rfl ?_
      refine ma_getf dX12_change_19 fX12_87 (by first | assumption | exact ma_up_s _ _ _ | exact (ma_up_n (by decide)).trans (by assumption)) (by rfl) ?_
      refine ma_iload_n dX12_change_22 rfl ?_
      refine ma_aload_n dX12_change_23 rfl ?_
      refine ma_getf dX12_change_24 fX12_87 (by first | assumption | exact ma_up_s _ _ _ | exact (ma_up_n (by decide)).trans (by assumption)) (by rfl) ?_
      refine ma_iload_n dX12_change_27 rfl ?_
      refine ma_bipush dX12_change_28 ?_
      refine ma_iadd dX12_change_30 ?_
      refine ma_iald dX12_change_31 (by first | assumption | exact ma_up_s _ _ _ | exact (ma_up_n (by decide)).trans (by assumption)) (by omega) (by omega) (by omega) ?_
      refine ma_iast dX12_change_32 (by first | assumption | exact ma_up_s _ _ _ | exact (ma_up_n (by decide)).trans (by assumption)) (by omega) (by omega) (by omega) ?_
      rw [ma_up_up]
      refine ma_iincN dX12_change_33 rfl (by decide) rfl ?_
      refine ma_goto 11 dX12_change_36 rfl ?_
      refine ih (i + 1) _ (by omega) (by omega) (by omega) (fun j j0 j1 => ?_) (fun j j0 j1 => ?_)
      · rcases Int.lt_or_eq_of_le (show j ≤ i by omega) with e | e
        · rw [uf_n (by omega)]
          exact h1 j j0 e
        · rw [e, uf_s]
          exact h2 (i + 33) (by omega) (by omega)
      · rw [uf_n (by omega)]
        exact h2 j (by omega) j1
theorem l_ch51 {h : ma_H} {a nx d : Nat} {w : Int} {I : Nat → Int} {U A : Int → Int} {Q : Option ma_V → ma_H → Nat → Prop} (hM : h 73 = co 12 (mo I)) (h74 : h 74 = ci 33 A) (hw : I 40 = w) (w0 : 0 ≤ w ∧ w < 8) (K : ∀ V : Int → Int, (∀ j, 0 ≤ j → j < 33 * w → V j = U j) → (∀ j, 0 ≤ j → j < 33 → V (33 * w + j) = A j) → ma_J none mX12_change (d + 1) 0 0 83 [some (vr 73), some (vr a), some (vi 33)] [] (ma_up h 99 (ci 264 V)) nx Q) :
    ∀ (m : Nat) (i : Int) (V : Int → Int), (0 ≤ i) → (i ≤ 33) → (33 - i < m) → (∀ j, 0 ≤ j → j < 33 * w → V j = U j) → (∀ j, 0 ≤ j → j < i → V (33 * w + j) = A j) → ma_J none mX12_change (d + 1) 0 0 51 [some (vr 73), some (vr a), some (vi i)] [] (ma_up h 99 (ci 264 V)) nx Q := by
  intro m
  induction m with
  | zero => intro i V i0 i1 hm h1 h2; omega
  | succ m ih =>
    intro i V i0 i1 hm h1 h2
    refine ma_iload_n dX12_change_51 rfl ?_
    refine ma_bipush dX12_change_52 ?_
    refine ma_rcmp_ge 83 dX12_change_54 rfl (by constructor <;> omega) (by constructor <;> omega) (fun c54 => ?_) (fun c54 => ?_)
    · -- 83
      have e : i = 33 := by omega
      subst e
      exact K V h1 h2
    · -- 57
      refine ma_aload_n dX12_change_57 rfl ?_
      refine ma_getf dX12_change_58 fX12_87 (by first | assumption | exact ma_up_s _ _ _ | exact (ma_up_n (by decide)).trans (by assumption)) (by rfl) ?_
      refine ma_bipush dX12_change_61 ?_
      refine ma_aload_n dX12_change_63 rfl ?_
      refine ma_getf dX12_change_64 fX12_437 (by first | assumption | exact ma_up_s _ _ _ | exact (ma_up_n (by decide)).trans (by assumption)) (by rfl) ?_
      rw [hw]
      refine ma_imul dX12_change_67 ?_
      refine ma_iload_n dX12_change_68 rfl ?_
      refine ma_iadd dX12_change_69 ?_
      refine ma_aload_n dX12_change_70 rfl ?_
      refine ma_getf dX12_change_71 fX12_9 (by first | assumption | exact ma_up_s _ _ _ | exact (ma_up_n (by decide)).trans (by assumption)) (by rfl) ?_
      refine ma_iload_n dX12_change_74 rfl ?_
      refine ma_iald dX12_change_75 (by first | assumption | exact ma_up_s _ _ _ | exact (ma_up_n (by decide)).trans (by assumption)) (by omega) (by omega) (by omega) ?_
      refine ma_iast dX12_change_76 (by first | assumption | exact ma_up_s _ _ _ | exact (ma_up_n (by decide)).trans (by assumption)) (by omega) (by omega) (by omega) ?_
      rw [ma_up_up]
      refine ma_iincN dX12_change_77 rfl (by decide) rfl ?_
      refine ma_goto 51 dX12_change_80 rfl ?_
      refine ih (i + 1) _ (by omega) (by omega) (by omega) (fun j j0 j1 => ?_) (fun j j0 j1 => ?_)
      · rw [uf_n (by omega)]
        exact h1 j j0 j1
      · rcases Int.lt_or_eq_of_le (show j ≤ i by omega) with e | e
        · rw [uf_n (by omega)]
          exact h2 j j0 e
        · rw [e, uf_s]
theorem l_ch49 {h : ma_H} {a nx d : Nat} {w : Int} {I : Nat → Int} {U A B' : Int → Int} {Q : Option ma_V → ma_H → Nat → Prop} {x2 : Option ma_V} (hM : h 73 = co 12 (mo I)) (h74 : h 74 = ci 33 A) (h99 : h 99 = ci 264 U) (ha : h a = ci 33 B') (na : a ≠ 73 ∧ a ≠ 74 ∧ a ≠ 99) (hw : I 40 = w) (w0 : 0 ≤ w ∧ w < 8) (K : ∀ V : Int → Int, (∀ j, 0 ≤ j → j < 33 * w → V j = U j) → (∀ j, 0 ≤ j → j < 33 → V (33 * w + j) = A j) → Q none (ma_up (ma_up (ma_up h 99 (ci 264 V)) 73 (co 12 (mo (iu I 40 (w + 1))))) 74 (ci 33 B')) nx) : ma_J none mX12_change (d + 1) 0 0 49 [some (vr 73), some (vr a), x2] [] h nx Q := by
  rw [← ma_up_id h99]
  refine ma_iconst dX12_change_49 ?_
  refine ma_istore_nN dX12_change_50 (by decide) rfl ?_
  refine l_ch51 (U := U) hM h74 hw w0 (fun V h1 h2 => ?_) 34 0 U (by decide) (by decide) (by decide) (fun j _ _ => rfl) (fun j j0 j1 => by omega)
  refine ma_aload_n dX12_change_83 rfl ?_
  refine ma_dup dX12_change_84 rfl ?_
  refine ma_getf dX12_change_85 fX12_437 (by first | assumption | exact ma_up_s _ _ _ | exact (ma_up_n (by decide)).trans (by assumption)) (by rfl) ?_
  rw [hw]
  refine ma_iconst dX12_change_88 ?_
  refine ma_iadd dX12_change_89 ?_
  refine ma_puti dX12_change_90 fX12_437 (by first | assumption | exact ma_up_s _ _ _ | exact (ma_up_n (by decide)).trans (by assumption)) (Nat.le_of_ble_eq_true rfl) ?_
  rw [mo_40]
  refine ma_aload_n dX12_change_93 rfl ?_
  refine ma_aload_n dX12_change_94 rfl ?_
  refine ma_getf dX12_change_95 fX12_9 (by first | assumption | exact ma_up_s _ _ _ | exact (ma_up_n (by decide)).trans (by assumption)) (by rfl) ?_
  refine ma_cS [_, _] dX12_change_98 wX12_lay lX12_168 tX12_lay (Nat.le_of_ble_eq_true rfl) ?_
  refine c_X12_lay ((ma_up_n na.1).trans ((ma_up_n na.2.2).trans ha)) ((ma_up_n (by decide)).trans ((ma_up_n (by decide)).trans h74)) na.2.1 ?_
  exact ma_vret dX12_change_101 rfl (K V h1 h2)
/-- the undos behind a change -/
def UN (w : Int) (U A V : Int → Int) : Prop := (w = 8 ∧ (∀ j, 0 ≤ j → j < 231 → V j = U (j + 33)) ∧ ∀ j, 0 ≤ j → j < 33 → V (231 + j) = A j) ∨ (w < 8 ∧ (∀ j, 0 ≤ j → j < 33 * w → V j = U j) ∧ ∀ j, 0 ≤ j → j < 33 → V (33 * w + j) = A j)
set_option maxHeartbeats 2000000 in
theorem c_X12_change {h : ma_H} {a nx d : Nat} {I : Nat → Int} {U A B' : Int → Int} {Q : Option ma_V → ma_H → Nat → Prop} (hM : h 73 = co 12 (mo I)) (h74 : h 74 = ci 33 A) (h99 : h 99 = ci 264 U) (ha : h a = ci 33 B') (na : a ≠ 73 ∧ a ≠ 74 ∧ a ≠ 99) (w0 : 0 ≤ I 40 ∧ I 40 ≤ 8) (K : ∀ h' I' V, kp h h' [73, 74, 99] → h' 73 = co 12 (mo I') → I' 40 = (if I 40 = 8 then 8 else I 40 + 1) → (∀ k, k ≠ 40 → I' k = I k) → h' 74 = ci 33 B' → h' 99 = ci 264 V → UN (I 40) U A V → Q none h' nx) : ma_Ct mX12_change (d + 1) 0 0 [vr 73, vr a] h nx Q := by
  refine ma_Ct.of (by decide +kernel) (Nat.le_of_ble_eq_true rfl) ?_
  refine ma_aload_n dX12_change_0 rfl ?_
  refine ma_getf dX12_change_1 fX12_437 (by first | assumption | exact ma_up_s _ _ _ | exact (ma_up_n (by decide)).trans (by assumption)) (by rfl) ?_
  refine ma_bipush dX12_change_4 ?_
  refine ma_rcmp_ne 49 dX12_change_6 rfl (by constructor <;> omega) (by decide) (fun c6 => ?_) (fun c6 => ?_)
  · -- 49
    exact l_ch49 hM h74 h99 ha na rfl (by omega) (fun V g1 g2 => K _ _ V (kp_up (by simp) (kp_up (by simp) (kp_up (by simp) (kp_rf _ _)))) ((ma_up_n (by decide)).trans (ma_up_s _ _ _)) (by rw [iu_s, if_neg (by omega)]) (fun k hk => iu_n hk) (ma_up_s _ _ _) ((ma_up_n (by decide)).trans ((ma_up_n (by decide)).trans (ma_up_s _ _ _))) (Or.inr ⟨by omega, g1, g2⟩))
  · -- 9
    refine ma_iconst dX12_change_9 ?_
    refine ma_istore_nN dX12_change_10 (by decide) rfl ?_
    rw [← ma_up_id h99]
    refine l_ch11 (U := U) hM (fun V hV => ?_) 232 0 U (by decide) (by decide) (by decide) (fun j j0 j1 => by omega) (fun j _ _ => rfl)
    refine ma_aload_n dX12_change_39 rfl ?_
    refine ma_dup dX12_change_40 rfl ?_
    refine ma_getf dX12_change_41 fX12_437 (by first | assumption | exact ma_up_s _ _ _ | exact (ma_up_n (by decide)).trans (by assumption)) (by rfl) ?_
    rw [c6]
    refine ma_iconst dX12_change_44 ?_
    refine ma_isub dX12_change_45 ?_
    refine ma_puti dX12_change_46 fX12_437 (by first | assumption | exact ma_up_s _ _ _ | exact (ma_up_n (by decide)).trans (by assumption)) (Nat.le_of_ble_eq_true rfl) ?_
    rw [mo_40]
    refine l_ch49 (w := 7) (U := V) (ma_up_s _ _ _) ((ma_up_n (by decide)).trans ((ma_up_n (by decide)).trans h74)) ((ma_up_n (by decide)).trans (ma_up_s _ _ _)) ((ma_up_n na.1).trans ((ma_up_n na.2.2).trans ha)) na rfl (by decide) (fun V' g1 g2 => K _ _ V' (kp_up (by simp) (kp_up (by simp) (kp_up (by simp) (kp_up (by simp) (kp_up (by simp) (kp_rf _ _)))))) ((ma_up_n (by decide)).trans (ma_up_s _ _ _)) (by rw [iu_s, if_pos c6]; rfl) (fun k hk => (iu_n hk).trans (iu_n hk)) (ma_up_s _ _ _) ((ma_up_n (by decide)).trans ((ma_up_n (by decide)).trans (ma_up_s _ _ _))) (Or.inl ⟨c6, fun j j0 j1 => (g1 j j0 (by omega)).trans (hV j j0 j1), g2⟩))
