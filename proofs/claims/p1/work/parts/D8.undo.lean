theorem c_X11_undo {h : ma_H} {y z d : Nat} {t q0 s n tt : Int} {G GG : Int → Int} {O : Int → Option Nat} {Q : Option ma_V → ma_H → Nat → Prop} (hx : h 0 = co 11 (xo q0)) (h1 : h 1 = co 8 [vi t, vr 2]) (h2 : h 2 = ci 32 G) (hp : h 13 = co 3 [vi s, vi n, vr 14]) (hw : h 14 = cq 8 O) (hn : 0 ≤ n ∧ n < 8) (hs : 0 ≤ s ∧ s ≤ 8) (hO : O ((n + 7) % 8) = some y) (hy : h y = co 8 [vi tt, vr z]) (hz : h z = ci 32 GG) (ry : 15 ≤ y ∧ y ≤ 30) (rz : 15 ≤ z ∧ z ≤ 30) (K0 : s = 0 → Q (some (vi (-1))) h 1000000) (K : 0 < s → Q (some (vi (s - 1))) (ma_up (ma_up (ma_up h 13 (co 3 [vi (s - 1), vi ((n + 7) % 8), vr 14])) 1 (co 8 [vi tt, vr 2])) 2 (ci 32 GG)) 1000000) : ma_Ct mX11_undo (d + 3) 0 0 [vr 0] h 1000000 Q := by
  refine ma_Ct.of (by decide +kernel) (Nat.le_of_ble_eq_true rfl) ?_
  refine ma_aload_n dX11_undo_0 rfl ?_
  refine ma_getf dX11_undo_1 fX11_33 (by assumption) (by rfl) ?_
  refine ma_aload_n dX11_undo_4 rfl ?_
  refine ma_getf dX11_undo_5 fX11_10 (by assumption) (by rfl) ?_
  refine ma_cV [_] dX11_undo_8 wX3_pop lX11_308 iX3_pop sX3_pop rfl (by assumption) (Nat.le_of_ble_eq_true rfl) ?_
  refine c_X3_pop hp hw hn hs hO hy hz h1 h2 (by decide) (by omega) (by omega) (by decide) (by decide) (by omega) (by omega) (by decide) (fun e => ?_) (fun e => ?_)
  · -- i
    exact ma_iret dX11_undo_11 rfl (K0 e)
  · -- i
    exact ma_iret dX11_undo_11 rfl (K e)
theorem l_un26 {h : ma_H} {nx d : Nat} {w : Int} {U : Int → Int} {I : Nat → Int} {Q : Option ma_V → ma_H → Nat → Prop} (hM : h 73 = co 12 (mo I)) (h99 : h 99 = ci 264 U) (hw : I 40 = w) (w0 : 0 ≤ w ∧ w < 8) (K : ∀ V : Int → Int, (∀ j, 0 ≤ j → j < 33 → V j = U (33 * w + j)) → Q (some (vi w)) (ma_up h 74 (ci 33 V)) nx) :
    ∀ (m : Nat) (i : Int) (V : Int → Int), (0 ≤ i) → (i ≤ 33) → (33 - i < m) → (∀ j, 0 ≤ j → j < i → V j = U (33 * w + j)) → ma_J none mX12_undo (d + 1) 0 0 26 [some (vr 73), some (vi i)] [] (ma_up h 74 (ci 33 V)) nx Q := by
  intro m
  induction m with
  | zero => intro i V i0 i1 hm h1; omega
  | succ m ih =>
    intro i V i0 i1 hm h1
    refine ma_iload_n dX12_undo_26 rfl ?_
    refine ma_bipush dX12_undo_27 ?_
    refine ma_rcmp_ge 58 dX12_undo_29 rfl (by constructor <;> omega) (by constructor <;> omega) (fun c29 => ?_) (fun c29 => ?_)
    · -- 58
      refine ma_aload_n dX12_undo_58 rfl ?_
      refine ma_getf dX12_undo_59 fX12_437 (by first | assumption | exact ma_up_s _ _ _ | exact (ma_up_n (by decide)).trans (by assumption) | exact (ma_up_n (by decide)).trans (ma_up_s _ _ _)) (by rfl) ?_
      rw [hw]
      have e : i = 33 := by omega
      subst e
      exact ma_iret dX12_undo_62 rfl (K V h1)
    · -- 32
      refine ma_aload_n dX12_undo_32 rfl ?_
      refine ma_getf dX12_undo_33 fX12_9 (by first | assumption | exact ma_up_s _ _ _ | exact (ma_up_n (by decide)).trans (by assumption) | exact (ma_up_n (by decide)).trans (ma_up_s _ _ _)) (by rfl) ?_
      refine ma_iload_n dX12_undo_36 rfl ?_
      refine ma_aload_n dX12_undo_37 rfl ?_
      refine ma_getf dX12_undo_38 fX12_87 (by first | assumption | exact ma_up_s _ _ _ | exact (ma_up_n (by decide)).trans (by assumption) | exact (ma_up_n (by decide)).trans (ma_up_s _ _ _)) (by rfl) ?_
      refine ma_bipush dX12_undo_41 ?_
      refine ma_aload_n dX12_undo_43 rfl ?_
      refine ma_getf dX12_undo_44 fX12_437 (by first | assumption | exact ma_up_s _ _ _ | exact (ma_up_n (by decide)).trans (by assumption) | exact (ma_up_n (by decide)).trans (ma_up_s _ _ _)) (by rfl) ?_
      rw [hw]
      refine ma_imul dX12_undo_47 ?_
      refine ma_iload_n dX12_undo_48 rfl ?_
      refine ma_iadd dX12_undo_49 ?_
      refine ma_iald dX12_undo_50 (by first | assumption | exact ma_up_s _ _ _ | exact (ma_up_n (by decide)).trans (by assumption) | exact (ma_up_n (by decide)).trans (ma_up_s _ _ _)) (by omega) (by omega) (by omega) ?_
      refine ma_iast dX12_undo_51 (by first | assumption | exact ma_up_s _ _ _ | exact (ma_up_n (by decide)).trans (by assumption) | exact (ma_up_n (by decide)).trans (ma_up_s _ _ _)) (by omega) (by omega) (by omega) ?_
      rw [ma_up_up]
      refine ma_iincN dX12_undo_52 rfl (by decide) rfl ?_
      refine ma_goto 26 dX12_undo_55 rfl ?_
      refine ih (i + 1) _ (by omega) (by omega) (by omega) (fun j j0 j1 => ?_)
      rcases Int.lt_or_eq_of_le (show j ≤ i by omega) with e | e
      · rw [uf_n (by omega)]
        exact h1 j j0 e
      · rw [e, uf_s]
theorem c_X12_undo {h : ma_H} {nx d : Nat} {w : Int} {A U : Int → Int} {I : Nat → Int} {Q : Option ma_V → ma_H → Nat → Prop} (hM : h 73 = co 12 (mo I)) (h74 : h 74 = ci 33 A) (h99 : h 99 = ci 264 U) (hw : I 40 = w) (w0 : 0 ≤ w ∧ w ≤ 8) (K0 : w = 0 → Q (some (vi (-1))) (ma_up h 73 (co 12 (mo (iu I 5 0)))) nx) (K : 0 < w → ∀ V : Int → Int, (∀ j, 0 ≤ j → j < 33 → V j = U (33 * (w - 1) + j)) → Q (some (vi (w - 1))) (ma_up (ma_up h 73 (co 12 (mo (iu (iu I 5 0) 40 (w - 1))))) 74 (ci 33 V)) nx) : ma_Ct mX12_undo (d + 1) 0 0 [vr 73] h nx Q := by
  refine ma_Ct.of (by decide +kernel) (Nat.le_of_ble_eq_true rfl) ?_
  refine ma_aload_n dX12_undo_0 rfl ?_
  refine ma_iconst dX12_undo_1 ?_
  refine ma_puti dX12_undo_2 fX12_128 (by first | assumption | exact ma_up_s _ _ _ | exact (ma_up_n (by decide)).trans (by assumption) | exact (ma_up_n (by decide)).trans (ma_up_s _ _ _)) (Nat.le_of_ble_eq_true rfl) ?_
  rw [mo_5]
  refine ma_aload_n dX12_undo_5 rfl ?_
  refine ma_getf dX12_undo_6 fX12_437 (by first | assumption | exact ma_up_s _ _ _ | exact (ma_up_n (by decide)).trans (by assumption) | exact (ma_up_n (by decide)).trans (ma_up_s _ _ _)) (by rfl) ?_
  rw [iu_n (by decide), hw]
  refine ma_rif_ne 14 dX12_undo_9 rfl (by constructor <;> omega) (fun c9 => ?_) (fun c9 => ?_)
  · -- 14
    refine ma_aload_n dX12_undo_14 rfl ?_
    refine ma_dup dX12_undo_15 rfl ?_
    refine ma_getf dX12_undo_16 fX12_437 (by first | assumption | exact ma_up_s _ _ _ | exact (ma_up_n (by decide)).trans (by assumption) | exact (ma_up_n (by decide)).trans (ma_up_s _ _ _)) (by rfl) ?_
    rw [iu_n (by decide), hw]
    refine ma_iconst dX12_undo_19 ?_
    refine ma_isub dX12_undo_20 ?_
    refine ma_puti dX12_undo_21 fX12_437 (by first | assumption | exact ma_up_s _ _ _ | exact (ma_up_n (by decide)).trans (by assumption) | exact (ma_up_n (by decide)).trans (ma_up_s _ _ _)) (Nat.le_of_ble_eq_true rfl) ?_
    rw [mo_40, ma_up_up]
    refine ma_iconst dX12_undo_24 ?_
    refine ma_istore_nN dX12_undo_25 (by decide) rfl ?_
    refine cast (congrArg (fun g => ma_J none mX12_undo (d + 1) 0 0 26 [some (vr 73), some (vi 0)] [] g nx Q) (ma_up_id (h := (ma_up h 73 (co 12 (mo (iu (iu I 5 0) 40 (w - 1)))))) ((ma_up_n (by decide)).trans h74))) ?_
    exact l_un26 (U := U) (ma_up_s _ _ _) ((ma_up_n (by decide)).trans h99) (iu_s _ _ _) (by omega) (fun V v1 => K (by omega) V v1) 34 0 A (by decide) (by decide) (by decide) (fun j j0 j1 => by omega)
  · -- 12
    refine ma_iconst dX12_undo_12 ?_
    exact ma_iret dX12_undo_13 rfl (K0 (by omega))
