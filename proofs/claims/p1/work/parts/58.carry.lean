def vh (h : ma_H) (H : Int → Int) (T : Int → Int) : ma_H := ma_up (ma_up h 57 (ci 32 H)) 58 (ci 32 T)
theorem vh_57 {h : ma_H} {H : Int → Int} {T : Int → Int} : vh h H T 57 = ci 32 H := rfl
theorem vh_58 {h : ma_H} {H : Int → Int} {T : Int → Int} : vh h H T 58 = ci 32 T := rfl
theorem vh_n {h : ma_H} {H : Int → Int} {T : Int → Int} {k : Nat} (hk : k ≠ 57 ∧ k ≠ 58) : vh h H T k = h k := by
  unfold vh
  rw [ma_up_n (by omega), ma_up_n (by omega)]
theorem vh_p57 {h : ma_H} {H : Int → Int} {T : Int → Int} {H' : Int → Int} : ma_up (vh h H T) 57 (ci 32 H') = vh h H' T := by
  unfold vh
  rw [ma_up_cm _ _ _ (by decide : 58 ≠ 57), ma_up_up]
theorem vh_p58 {h : ma_H} {H : Int → Int} {T : Int → Int} {T' : Int → Int} : ma_up (vh h H T) 58 (ci 32 T') = vh h H T' := by
  unfold vh
  rw [ma_up_up]
theorem vh_of {h : ma_H} {H : Int → Int} {T : Int → Int} (e57 : h 57 = ci 32 H) (e58 : h 58 = ci 32 T) : h = vh h H T := by
  unfold vh
  rw [ma_up_id e57, ma_up_id e58]
theorem c_X1_put {h : ma_H} {nx d : Nat} {k x y : Int} {H T : Int → Int} {Q : Option ma_V → ma_H → Nat → Prop} (hm : h 54 = co 1 [vr 44, vr 39, vr 55, vr 57, vr 58]) (hk : 0 ≤ k ∧ k < 32) (K : Q none (vh h (uf H k x) (uf T k y)) nx) : ma_Ct mX1_put d 0 0 [vr 54, vi k, vi x, vi y] (vh h H T) nx Q := by
  refine ma_Ct.of (by decide +kernel) (Nat.le_of_ble_eq_true rfl) ?_
  refine ma_aload_n dX1_put_0 rfl ?_
  refine ma_getf dX1_put_1 fX1_18 (by first | exact vh_57 | exact vh_58 | exact (vh_n (by omega)).trans (by assumption)) (by rfl) ?_
  refine ma_iload_n dX1_put_4 rfl ?_
  refine ma_iload_n dX1_put_5 rfl ?_
  refine ma_iast dX1_put_6 (by first | exact vh_57 | exact vh_58 | exact (vh_n (by omega)).trans (by assumption)) (by omega) (by omega) (by omega) ?_
  rw [vh_p57]
  refine ma_aload_n dX1_put_7 rfl ?_
  refine ma_getf dX1_put_8 fX1_22 (by first | exact vh_57 | exact vh_58 | exact (vh_n (by omega)).trans (by assumption)) (by rfl) ?_
  refine ma_iload_n dX1_put_11 rfl ?_
  refine ma_iload_n dX1_put_12 rfl ?_
  refine ma_iast dX1_put_13 (by first | exact vh_57 | exact vh_58 | exact (vh_n (by omega)).trans (by assumption)) (by omega) (by omega) (by omega) ?_
  rw [vh_p58]
  exact ma_vret dX1_put_14 rfl K
theorem c_X1_putBeyond {h : ma_H} {nx d : Nat} {c x y z : Int} {H T : Int → Int} {Q : Option ma_V → ma_H → Nat → Prop} (hm : h 54 = co 1 [vr 44, vr 39, vr 55, vr 57, vr 58]) (hc : 0 ≤ c ∧ c < 256) (hp : c % 32 < 24) (hx : 0 ≤ x ∧ x < 4) (hy : 0 ≤ y ∧ y < 4) (K : Q none (vh h (uf H (4 * (c / 32) + im (c % 32) y) z) (uf T (4 * (c / 32) + im (c % 32) y) (af (sx x y) (iv (c % 32))))) nx) : ma_Ct mX1_putBeyond (d + 1) 0 0 [vr 54, vi c, vi x, vi y, vi z] (vh h H T) nx Q := by
  have p0 : 0 ≤ c % 32 := by omega
  have i1 := im_in p0 hp hy.1 hy.2
  have i2 := iv_in p0 hp
  have i3 := sx_ok hx.1 hx.2 hy.1 hy.2
  have j1 : 0 ≤ ma_tf 0 (4 * (c % 32) + y) ∧ ma_tf 0 (4 * (c % 32) + y) < 4 := i1
  have j2 : 0 ≤ ma_tf 1 (c % 32) ∧ ma_tf 1 (c % 32) < 24 := i2
  have j3 : 0 ≤ ma_tf 3 (4 * x + y) ∧ ma_tf 3 (4 * x + y) < 24 := ⟨i3.1, i3.2.1⟩
  refine ma_Ct.of (by decide +kernel) (Nat.le_of_ble_eq_true rfl) ?_
  refine ma_iload_n dX1_putBeyond_0 rfl ?_
  refine ma_bipush dX1_putBeyond_1 ?_
  refine ma_kand 5 32 dX1_putBeyond_3 (by decide) (by decide +kernel) (by decide) ?_
  refine ma_istoreN dX1_putBeyond_4 (by decide) rfl ?_
  refine ma_aload_n dX1_putBeyond_6 rfl ?_
  refine ma_iconst dX1_putBeyond_7 ?_
  refine ma_iload_n dX1_putBeyond_8 rfl ?_
  refine ma_iconst dX1_putBeyond_9 ?_
  refine ma_kshr 32 dX1_putBeyond_10 (by decide) (by constructor <;> omega) ?_
  refine ma_imul dX1_putBeyond_11 ?_
  refine ma_getsN (j := 0) dX1_putBeyond_12 (by decide) gX1_179 ?_
  refine ma_iconst dX1_putBeyond_15 ?_
  refine ma_iload dX1_putBeyond_16 rfl ?_
  refine ma_imul dX1_putBeyond_18 ?_
  refine ma_iload_n dX1_putBeyond_19 rfl ?_
  refine ma_iadd dX1_putBeyond_20 ?_
  refine ma_tald (j := 0) (n := 96) dX1_putBeyond_21 (by decide) tl_0 (by omega) (by omega) (by decide) ?_
  refine ma_iadd dX1_putBeyond_22 ?_
  refine ma_iload dX1_putBeyond_23 rfl ?_
  refine ma_getsN (j := 4) dX1_putBeyond_25 (by decide) gX1_182 ?_
  refine ma_bipush dX1_putBeyond_28 ?_
  refine ma_getsN (j := 3) dX1_putBeyond_30 (by decide) gX1_173 ?_
  refine ma_iconst dX1_putBeyond_33 ?_
  refine ma_iload_n dX1_putBeyond_34 rfl ?_
  refine ma_imul dX1_putBeyond_35 ?_
  refine ma_iload_n dX1_putBeyond_36 rfl ?_
  refine ma_iadd dX1_putBeyond_37 ?_
  refine ma_tald (j := 3) (n := 16) dX1_putBeyond_38 (by decide) tl_3 (by omega) (by omega) (by decide) ?_
  refine ma_imul dX1_putBeyond_39 ?_
  refine ma_getsN (j := 1) dX1_putBeyond_40 (by decide) gX1_185 ?_
  refine ma_iload dX1_putBeyond_43 rfl ?_
  refine ma_tald (j := 1) (n := 24) dX1_putBeyond_45 (by decide) tl_1 (by omega) (by omega) (by decide) ?_
  refine ma_iadd dX1_putBeyond_46 ?_
  refine ma_tald (j := 4) (n := 576) dX1_putBeyond_47 (by decide) tl_4 (by omega) (by omega) (by decide) ?_
  refine ma_cV [_, _, _] dX1_putBeyond_48 wX1_put lX1_157 iX1_put sX1_put rfl (by first | exact vh_57 | exact vh_58 | exact (vh_n (by omega)).trans (by assumption)) (Nat.le_of_ble_eq_true rfl) ?_
  refine c_X1_put hm (by constructor <;> omega) ?_
  exact ma_vret dX1_putBeyond_51 rfl K
/-- how many of the tets below i stay; where faces go at first -/
noncomputable def sty (S : Int → Prop) (i : Int) : Int := ct (fun j => ¬ S j) i.toNat
noncomputable def lo (S : Int → Prop) (j : Int) : Int := @ite _ (S (j / 4)) (Classical.propDecidable _) (-1) (sty S (j / 4))
set_option maxHeartbeats 2000000 in
theorem l_X1_layOut_34_1 {h : ma_H} {b g nx d : Nat} {t m : Int} {Q : Option ma_V → ma_H → Nat → Prop} {S : Int → Prop} (hm : h 54 = co 1 [vr 44, vr 39, vr 55, vr 57, vr 58]) (hb : h b = co 8 [vi t, vr g]) (nb : b ≠ 57 ∧ b ≠ 58) (ht : 0 ≤ t ∧ t ≤ 8) (hM : MK m S) {i : Int} (hi : 0 ≤ i ∧ i < t) (hS : S i) (KO : ∀ (H T : Int → Int) (x6 : Option ma_V), (∀ j, 0 ≤ j → j < 4 * (i + 1) → H j = lo S j ∧ T j = 0) → ma_J none mX1_layOut (d + 1) 0 0 68 [some (vr 54), some (vr b), some (vi m), some (vi (sty S i)), some (vi i), some (vi 1), x6] [] (vh h H T) nx Q) :
    ∀ (n : Nat) (f : Int) (H T : Int → Int), 0 ≤ f → f ≤ 4 → 4 - f < n → (∀ j, 0 ≤ j → j < 4 * i + f → H j = lo S j ∧ T j = 0) → ma_J none mX1_layOut (d + 1) 0 0 34 [some (vr 54), some (vr b), some (vi m), some (vi (sty S i)), some (vi i), some (vi 1), some (vi f)] [] (vh h H T) nx Q := by
  intro n
  induction n with
  | zero => intro f H T h0 h1 h2; omega
  | succ n ih =>
    intro f H T h0 h1 h2 hL
    refine ma_iload dX1_layOut_34 rfl ?_
    refine ma_iconst dX1_layOut_36 ?_
    refine ma_rcmp_ge 68 dX1_layOut_37 rfl (by constructor <;> omega) (by constructor <;> omega) (fun c37 => ?_) (fun c37 => ?_)
    · -- 68
      exact KO H T _ (fun j j0 j1 => hL j j0 (by omega))
    · -- 40
      refine ma_aload_n dX1_layOut_40 rfl ?_
      refine ma_iconst dX1_layOut_41 ?_
      refine ma_iload dX1_layOut_42 rfl ?_
      refine ma_imul dX1_layOut_44 ?_
      refine ma_iload dX1_layOut_45 rfl ?_
      refine ma_iadd dX1_layOut_47 ?_
      refine ma_iload dX1_layOut_48 rfl ?_
      refine ma_rif_eq 57 dX1_layOut_50 rfl (by decide) (fun c50 => absurd c50 (by decide)) (fun c50 => ?_)
      refine ma_iconst dX1_layOut_53 ?_
      refine ma_goto 58 dX1_layOut_54 rfl ?_
      refine ma_iconst dX1_layOut_58 ?_
      refine ma_cV [_, _, _] dX1_layOut_59 wX1_put lX1_157 iX1_put sX1_put rfl (by first | exact vh_57 | exact vh_58 | exact (vh_n (by omega)).trans (by assumption)) (Nat.le_of_ble_eq_true rfl) ?_
      refine c_X1_put hm (by constructor <;> omega) ?_
      refine ma_iincN dX1_layOut_62 rfl (by decide) rfl ?_
      refine ma_goto 34 dX1_layOut_65 rfl ?_
      exact ih (f + 1) _ _ (by omega) (by omega) (by omega) (fun j j0 j1 => by
        by_cases z : j = 4 * i + f
        · rw [z, uf_s, uf_s]
          unfold lo
          rw [show (4 * i + f) / 4 = i by omega, if_pos hS]
          exact ⟨rfl, rfl⟩
        · rw [uf_n z, uf_n z]; exact hL j j0 (by omega))
set_option maxHeartbeats 2000000 in
theorem l_X1_layOut_34_0 {h : ma_H} {b g nx d : Nat} {t m : Int} {Q : Option ma_V → ma_H → Nat → Prop} {S : Int → Prop} (hm : h 54 = co 1 [vr 44, vr 39, vr 55, vr 57, vr 58]) (hb : h b = co 8 [vi t, vr g]) (nb : b ≠ 57 ∧ b ≠ 58) (ht : 0 ≤ t ∧ t ≤ 8) (hM : MK m S) {i : Int} (hi : 0 ≤ i ∧ i < t) (hS : ¬ S i) (KO : ∀ (H T : Int → Int) (x6 : Option ma_V), (∀ j, 0 ≤ j → j < 4 * (i + 1) → H j = lo S j ∧ T j = 0) → ma_J none mX1_layOut (d + 1) 0 0 68 [some (vr 54), some (vr b), some (vi m), some (vi (sty S i)), some (vi i), some (vi 0), x6] [] (vh h H T) nx Q) :
    ∀ (n : Nat) (f : Int) (H T : Int → Int), 0 ≤ f → f ≤ 4 → 4 - f < n → (∀ j, 0 ≤ j → j < 4 * i + f → H j = lo S j ∧ T j = 0) → ma_J none mX1_layOut (d + 1) 0 0 34 [some (vr 54), some (vr b), some (vi m), some (vi (sty S i)), some (vi i), some (vi 0), some (vi f)] [] (vh h H T) nx Q := by
  intro n
  induction n with
  | zero => intro f H T h0 h1 h2; omega
  | succ n ih =>
    intro f H T h0 h1 h2 hL
    refine ma_iload dX1_layOut_34 rfl ?_
    refine ma_iconst dX1_layOut_36 ?_
    refine ma_rcmp_ge 68 dX1_layOut_37 rfl (by constructor <;> omega) (by constructor <;> omega) (fun c37 => ?_) (fun c37 => ?_)
    · -- 68
      exact KO H T _ (fun j j0 j1 => hL j j0 (by omega))
    · -- 40
      refine ma_aload_n dX1_layOut_40 rfl ?_
      refine ma_iconst dX1_layOut_41 ?_
      refine ma_iload dX1_layOut_42 rfl ?_
      refine ma_imul dX1_layOut_44 ?_
      refine ma_iload dX1_layOut_45 rfl ?_
      refine ma_iadd dX1_layOut_47 ?_
      refine ma_iload dX1_layOut_48 rfl ?_
      refine ma_rif_eq 57 dX1_layOut_50 rfl (by decide) (fun c50 => ?_) (fun c50 => absurd c50 (by decide))
      refine ma_iload_n dX1_layOut_57 rfl ?_
      refine ma_iconst dX1_layOut_58 ?_
      refine ma_cV [_, _, _] dX1_layOut_59 wX1_put lX1_157 iX1_put sX1_put rfl (by first | exact vh_57 | exact vh_58 | exact (vh_n (by omega)).trans (by assumption)) (Nat.le_of_ble_eq_true rfl) ?_
      refine c_X1_put hm (by constructor <;> omega) ?_
      refine ma_iincN dX1_layOut_62 rfl (by decide) rfl ?_
      refine ma_goto 34 dX1_layOut_65 rfl ?_
      exact ih (f + 1) _ _ (by omega) (by omega) (by omega) (fun j j0 j1 => by
        by_cases z : j = 4 * i + f
        · rw [z, uf_s, uf_s]
          unfold lo
          rw [show (4 * i + f) / 4 = i by omega, if_neg hS]
          exact ⟨rfl, rfl⟩
        · rw [uf_n z, uf_n z]; exact hL j j0 (by omega))
theorem sty_s {S : Int → Prop} {i : Int} (h0 : 0 ≤ i) (h : S i) : sty S (i + 1) = sty S i := ct_n (P := fun j => ¬ S j) h0 (fun z => z h)
theorem sty_n {S : Int → Prop} {i : Int} (h0 : 0 ≤ i) (h : ¬ S i) : sty S (i + 1) = sty S i + 1 := ct_y (P := fun j => ¬ S j) h0 h
set_option maxHeartbeats 2000000 in
theorem l_X1_layOut_5 {h : ma_H} {b g nx d : Nat} {t m : Int} {Q : Option ma_V → ma_H → Nat → Prop} {S : Int → Prop} (hm : h 54 = co 1 [vr 44, vr 39, vr 55, vr 57, vr 58]) (hb : h b = co 8 [vi t, vr g]) (nb : b ≠ 57 ∧ b ≠ 58) (ht : 0 ≤ t ∧ t ≤ 8) (hM : MK m S) (K : ∀ H T, (∀ j, 0 ≤ j → j < 4 * t → H j = lo S j ∧ T j = 0) → Q (some (vi (sty S t))) (vh h H T) nx) :
    ∀ (n : Nat) (i : Int) (H T : Int → Int) (x5 x6 : Option ma_V), 0 ≤ i → i ≤ t → t - i < n → (∀ j, 0 ≤ j → j < 4 * i → H j = lo S j ∧ T j = 0) → ma_J none mX1_layOut (d + 1) 0 0 5 [some (vr 54), some (vr b), some (vi m), some (vi (sty S i)), some (vi i), x5, x6] [] (vh h H T) nx Q := by
  intro n
  induction n with
  | zero => intro i H T x5 x6 h0 h1 h2; omega
  | succ n ih =>
    intro i H T x5 x6 h0 h1 h2 hL
    have KO1 : i < t → S i → ∀ (H T : Int → Int) (x6 : Option ma_V), (∀ j, 0 ≤ j → j < 4 * (i + 1) → H j = lo S j ∧ T j = 0) → ma_J none mX1_layOut (d + 1) 0 0 68 [some (vr 54), some (vr b), some (vi m), some (vi (sty S i)), some (vi i), some (vi 1), x6] [] (vh h H T) nx Q := by
      intro hit hS H T x6 hL'
      rw [← sty_s h0 hS]
      refine ma_iload dX1_layOut_68 rfl ?_
      refine ma_rif_ne 76 dX1_layOut_70 rfl (by decide) (fun c70 => ?_) (fun c70 => absurd c70 (by decide))
      refine ma_iincN dX1_layOut_76 rfl (by decide) rfl ?_
      refine ma_goto 5 dX1_layOut_79 rfl ?_
      exact ih (i + 1) H T _ _ (by omega) (by omega) (by omega) hL'
    have KO0 : i < t → ¬ S i → ∀ (H T : Int → Int) (x6 : Option ma_V), (∀ j, 0 ≤ j → j < 4 * (i + 1) → H j = lo S j ∧ T j = 0) → ma_J none mX1_layOut (d + 1) 0 0 68 [some (vr 54), some (vr b), some (vi m), some (vi (sty S i)), some (vi i), some (vi 0), x6] [] (vh h H T) nx Q := by
      intro hit hS H T x6 hL'
      have es := sty_n h0 hS
      refine ma_iload dX1_layOut_68 rfl ?_
      refine ma_rif_ne 76 dX1_layOut_70 rfl (by decide) (fun c70 => absurd c70 (by decide)) (fun c70 => ?_)
      refine ma_iincN dX1_layOut_73 rfl (by decide) rfl ?_
      refine ma_iincN dX1_layOut_76 rfl (by decide) rfl ?_
      refine ma_goto 5 dX1_layOut_79 rfl ?_
      show ma_J none mX1_layOut (d + 1) 0 0 5 [some (vr 54), some (vr b), some (vi m), some (vi (sty S i + 1)), some (vi (i + 1)), some (vi 0), x6] [] (vh h H T) nx Q
      rw [← es]
      exact ih (i + 1) H T _ _ (by omega) (by omega) (by omega) hL'
    refine ma_iload dX1_layOut_5 rfl ?_
    refine ma_aload_n dX1_layOut_7 rfl ?_
    refine ma_getf dX1_layOut_8 fX1_54 (by first | exact vh_57 | exact vh_58 | exact (vh_n (by omega)).trans (by assumption)) (by rfl) ?_
    refine ma_rcmp_ge 82 dX1_layOut_11 rfl (by constructor <;> omega) (by constructor <;> omega) (fun c11 => ?_) (fun c11 => ?_)
    · -- 82
      refine ma_iload_n dX1_layOut_82 rfl ?_
      rw [show i = t by omega] at hL
      rw [show sty S i = sty S t by rw [show i = t by omega]]
      exact ma_iret dX1_layOut_83 rfl (K H T hL)
    · -- 14
      refine ma_iload_n dX1_layOut_14 rfl ?_
      refine ma_iload dX1_layOut_15 rfl ?_
      refine ma_ishr dX1_layOut_17 ?_
      rw [bn_shr hM.1 (by have := hM.2.1; omega) h0 (by omega)]
      refine ma_iconst dX1_layOut_18 ?_
      refine ma_kand 1 2 dX1_layOut_19 (by decide) (by decide +kernel) (by decide) ?_
      refine ma_iconst dX1_layOut_20 ?_
      refine ma_rcmp_ne 28 dX1_layOut_21 rfl (by constructor <;> omega) (by constructor <;> omega) (fun c21 => ?_) (fun c21 => ?_)
      · -- 28
        refine ma_iconst dX1_layOut_28 ?_
        refine ma_istoreN dX1_layOut_29 (by decide) rfl ?_
        refine ma_iconst dX1_layOut_31 ?_
        refine ma_istoreN dX1_layOut_32 (by decide) rfl ?_
        have hS : ¬ S i := fun z => c21 ((hM.2.2 i h0 (by omega)).mpr z)
        exact l_X1_layOut_34_0 hm hb nb ht hM (by constructor <;> omega) hS (fun H T x6 hL' => KO0 (by omega) hS H T _ hL') 5 0 H T (by omega) (by omega) (by omega) (fun j j0 j1 => hL j j0 (by omega))
      · -- 24
        refine ma_iconst dX1_layOut_24 ?_
        refine ma_goto 29 dX1_layOut_25 rfl ?_
        refine ma_istoreN dX1_layOut_29 (by decide) rfl ?_
        refine ma_iconst dX1_layOut_31 ?_
        refine ma_istoreN dX1_layOut_32 (by decide) rfl ?_
        have hS : S i := (hM.2.2 i h0 (by omega)).mp (by unfold tb; omega)
        exact l_X1_layOut_34_1 hm hb nb ht hM (by constructor <;> omega) hS (fun H T x6 hL' => KO1 (by omega) hS H T _ hL') 5 0 H T (by omega) (by omega) (by omega) (fun j j0 j1 => hL j j0 (by omega))
theorem c_X1_layOut {h : ma_H} {b g nx d : Nat} {t m : Int} {Q : Option ma_V → ma_H → Nat → Prop} {S : Int → Prop} {H T : Int → Int} (hm : h 54 = co 1 [vr 44, vr 39, vr 55, vr 57, vr 58]) (hb : h b = co 8 [vi t, vr g]) (nb : b ≠ 57 ∧ b ≠ 58) (ht : 0 ≤ t ∧ t ≤ 8) (hM : MK m S) (K : ∀ H T, (∀ j, 0 ≤ j → j < 4 * t → H j = lo S j ∧ T j = 0) → Q (some (vi (sty S t))) (vh h H T) nx) : ma_Ct mX1_layOut (d + 1) 0 0 [vr 54, vr b, vi m] (vh h H T) nx Q := by
  refine ma_Ct.of (by decide +kernel) (Nat.le_of_ble_eq_true rfl) ?_
  refine ma_iconst dX1_layOut_0 ?_
  refine ma_istore_nN dX1_layOut_1 (by decide) rfl ?_
  refine ma_iconst dX1_layOut_2 ?_
  refine ma_istoreN dX1_layOut_3 (by decide) rfl ?_
  exact l_X1_layOut_5 hm hb nb ht hM K 9 0 H T _ _ (by omega) (by omega) (by omega) (fun j j0 j1 => by omega)
/-- faces that have a home are glued there as they were -/
def cyn (H T : Int → Int) (k : Int) : Int := 4 * H k + im (T k) (k % 4)
def cyv (G H T : Int → Int) (k : Int) : Int := 32 * H (pt G k) + af (T (pt G k)) (af (G k % 32) (iv (T k)))
def cy (G H T C : Int → Int) : Nat → Int → Int
  | 0 => C
  | k + 1 => if 0 ≤ H k ∧ 0 ≤ G k ∧ 0 ≤ H (pt G k) then uf (cy G H T C k) (cyn H T k) (cyv G H T k) else cy G H T C k
theorem cy_s {G H T C : Int → Int} {k : Int} (k0 : 0 ≤ k) : cy G H T C (k + 1).toNat = if 0 ≤ H k ∧ 0 ≤ G k ∧ 0 ≤ H (pt G k) then uf (cy G H T C k.toNat) (cyn H T k) (cyv G H T k) else cy G H T C k.toNat := by
  rw [show (k + 1).toNat = k.toNat + 1 by omega]
  show (if 0 ≤ H (k.toNat : Int) ∧ 0 ≤ G (k.toNat : Int) ∧ 0 ≤ H (pt G (k.toNat : Int)) then uf (cy G H T C k.toNat) (cyn H T (k.toNat : Int)) (cyv G H T (k.toNat : Int)) else cy G H T C k.toNat) = _
  rw [Int.toNat_of_nonneg k0]
theorem pt_in {t : Int} {G : Int → Int} (hG : VG t G) {k : Int} (k0 : 0 ≤ k) (k1 : k < 4 * t) : (G k < 0 → pt G k = -1) ∧ (0 ≤ G k → 0 ≤ pt G k ∧ pt G k < 4 * t ∧ 0 ≤ G k % 32 ∧ G k % 32 < 24) := by
  unfold pt
  refine ⟨fun z => if_pos z, fun z => ?_⟩
  rw [if_neg (by omega)]
  rcases hG.2.1 k k0 k1 with y | y
  · omega
  · have := im_in (show 0 ≤ G k % 32 by omega) y.2.2.1 (show 0 ≤ k % 4 by omega) (show k % 4 < 4 by omega)
    omega
set_option maxHeartbeats 4000000 in
theorem l_X1_carry_2 {h : ma_H} {b g c e nx d : Nat} {t u : Int} {G H T C : Int → Int} {Q : Option ma_V → ma_H → Nat → Prop} (hm : h 54 = co 1 [vr 44, vr 39, vr 55, vr 57, vr 58]) (hb : h b = co 8 [vi t, vr g]) (hg : h g = ci 32 G) (hH : h 57 = ci 32 H) (hT : h 58 = ci 32 T) (hc : h c = co 8 [vi u, vr e]) (n1 : e ≠ 54) (n2 : e ≠ b) (n3 : e ≠ g) (n4 : e ≠ 57) (n5 : e ≠ 58) (n6 : e ≠ c) (hG : VG t G) (rH : ∀ j, 0 ≤ j → j < 4 * t → -1 ≤ H j ∧ H j < 8) (rT : ∀ j, 0 ≤ j → j < 4 * t → 0 ≤ T j ∧ T j < 24) (K : Q none (ma_up h e (ci 32 (cy G H T C (4 * t).toNat))) nx) :
    ∀ (n : Nat) (k : Int) (x4 x5 x6 : Option ma_V), 0 ≤ k → k ≤ 4 * t → 4 * t - k < n → ma_J none mX1_carry (d + 1) 0 0 2 [some (vr 54), some (vr b), some (vr c), some (vi k), x4, x5, x6] [] (ma_up h e (ci 32 (cy G H T C k.toNat))) nx Q := by
  have ht := hG.1
  intro n
  induction n with
  | zero => intro k x4 x5 x6 h0 h1 h2; omega
  | succ n ih =>
    intro k x4 x5 x6 h0 h1 h2
    refine ma_iload_n dX1_carry_2 rfl ?_
    refine ma_iconst dX1_carry_3 ?_
    refine ma_aload_n dX1_carry_4 rfl ?_
    refine ma_getf dX1_carry_5 fX1_54 (by first | exact ma_up_s _ _ _ | exact (ma_up_n (Ne.symm (by assumption))).trans (by assumption)) (by rfl) ?_
    refine ma_imul dX1_carry_8 ?_
    refine ma_rcmp_ge 142 dX1_carry_9 rfl (by constructor <;> omega) (by constructor <;> omega) (fun c9 => ?_) (fun c9 => ?_)
    · -- 142
      rw [show k = 4 * t by omega]
      exact ma_vret dX1_carry_142 rfl K
    · -- 12
      refine ma_aload_n dX1_carry_12 rfl ?_
      refine ma_iload_n dX1_carry_13 rfl ?_
      refine ma_cV [_] dX1_carry_14 wX8_partner lX1_126 iX8_partner sX8_partner rfl (by first | exact ma_up_s _ _ _ | exact (ma_up_n (Ne.symm (by assumption))).trans (by assumption)) (Nat.le_of_ble_eq_true rfl) ?_
      refine c_X8_partner (by first | exact ma_up_s _ _ _ | exact (ma_up_n (Ne.symm (by assumption))).trans (by assumption)) (by first | exact ma_up_s _ _ _ | exact (ma_up_n (Ne.symm (by assumption))).trans (by assumption)) (by constructor <;> omega) (vg_in hG h0 (by omega)).2.2 ?_
      have hpt := pt_in hG h0 (show k < 4 * t by omega)
      have hgk := vg_in hG h0 (show k < 32 by omega)
      refine ma_istoreN dX1_carry_17 (by decide) rfl ?_
      have hpr : -1 ≤ pt G k ∧ pt G k < 32 := by
        rcases Int.lt_or_le (G k) 0 with z | z
        · have := hpt.1 z; omega
        · have := hpt.2 z; omega
      refine ma_aload_n dX1_carry_19 rfl ?_
      refine ma_getf dX1_carry_20 fX1_18 (by first | exact ma_up_s _ _ _ | exact (ma_up_n (Ne.symm (by assumption))).trans (by assumption)) (by rfl) ?_
      refine ma_iload_n dX1_carry_23 rfl ?_
      refine ma_iald dX1_carry_24 (by first | exact ma_up_s _ _ _ | exact (ma_up_n (Ne.symm (by assumption))).trans (by assumption)) (by omega) (by omega) (by omega) ?_
      have hHk := rH k h0 (by omega)
      refine ma_rif_lt 136 dX1_carry_25 rfl (by constructor <;> omega) (fun c25 => ?_) (fun c25 => ?_)
      · -- 136
        refine ma_iincN dX1_carry_136 rfl (by decide) rfl ?_
        refine ma_goto 2 dX1_carry_139 rfl ?_
        have es := cy_s (G := G) (H := H) (T := T) (C := C) h0
        first
          | (rw [if_neg (by omega)] at es; rw [← es]; exact ih (k + 1) _ _ _ (by omega) (by omega) (by omega))
          | (rw [if_neg (fun z => by have := hpt.1; omega)] at es; rw [← es]; exact ih (k + 1) _ _ _ (by omega) (by omega) (by omega))
          | (rw [if_pos (by omega)] at es; change ma_J none mX1_carry (d + 1) 0 0 2 _ [] (ma_up h e (ci 32 (uf (cy G H T C k.toNat) (cyn H T k) (cyv G H T k)))) nx Q; rw [← es]; exact ih (k + 1) _ _ _ (by omega) (by omega) (by omega))
      · -- 28
        refine ma_iload dX1_carry_28 rfl ?_
        refine ma_rif_lt 136 dX1_carry_30 rfl (by constructor <;> omega) (fun c30 => ?_) (fun c30 => ?_)
        · -- 136
          refine ma_iincN dX1_carry_136 rfl (by decide) rfl ?_
          refine ma_goto 2 dX1_carry_139 rfl ?_
          have es := cy_s (G := G) (H := H) (T := T) (C := C) h0
          first
            | (rw [if_neg (by omega)] at es; rw [← es]; exact ih (k + 1) _ _ _ (by omega) (by omega) (by omega))
            | (rw [if_neg (fun z => by have := hpt.1; omega)] at es; rw [← es]; exact ih (k + 1) _ _ _ (by omega) (by omega) (by omega))
            | (rw [if_pos (by omega)] at es; change ma_J none mX1_carry (d + 1) 0 0 2 _ [] (ma_up h e (ci 32 (uf (cy G H T C k.toNat) (cyn H T k) (cyv G H T k)))) nx Q; rw [← es]; exact ih (k + 1) _ _ _ (by omega) (by omega) (by omega))
        · -- 33
          have hg0 : 0 ≤ G k := by
            rcases Int.lt_or_le (G k) 0 with z | z
            · have := hpt.1 z; omega
            · exact z
          have hp2 := hpt.2 hg0
          have hHp := rH (pt G k) hp2.1 hp2.2.1
          have hTk := rT k h0 (by omega)
          have hTp := rT (pt G k) hp2.1 hp2.2.1
          have i1 := iv_in hTk.1 hTk.2
          have i2 := af_in hp2.2.2.1 hp2.2.2.2 i1.1 i1.2
          have i3 := im_in hTk.1 hTk.2 (show 0 ≤ k % 4 by omega) (show k % 4 < 4 by omega)
          have i4 := af_in hTp.1 hTp.2 i2.1 i2.2
          have j1 : 0 ≤ ma_tf 1 (T k) ∧ ma_tf 1 (T k) < 24 := i1
          have j2 : 0 ≤ ma_tf 4 (24 * (G k % 32) + ma_tf 1 (T k)) ∧ ma_tf 4 (24 * (G k % 32) + ma_tf 1 (T k)) < 24 := i2
          have j3 : 0 ≤ ma_tf 0 (4 * T k + k % 4) ∧ ma_tf 0 (4 * T k + k % 4) < 4 := i3
          have j4 : 0 ≤ ma_tf 4 (24 * T (pt G k) + ma_tf 4 (24 * (G k % 32) + ma_tf 1 (T k))) ∧ ma_tf 4 (24 * T (pt G k) + ma_tf 4 (24 * (G k % 32) + ma_tf 1 (T k))) < 24 := i4
          refine ma_aload_n dX1_carry_33 rfl ?_
          refine ma_getf dX1_carry_34 fX1_18 (by first | exact ma_up_s _ _ _ | exact (ma_up_n (Ne.symm (by assumption))).trans (by assumption)) (by rfl) ?_
          refine ma_iload dX1_carry_37 rfl ?_
          refine ma_iald dX1_carry_39 (by first | exact ma_up_s _ _ _ | exact (ma_up_n (Ne.symm (by assumption))).trans (by assumption)) (by omega) (by omega) (by omega) ?_
          refine ma_rif_ge 46 dX1_carry_40 rfl (by constructor <;> omega) (fun c40 => ?_) (fun c40 => ?_)
          · -- 46
            refine ma_getsN (j := 4) dX1_carry_46 (by decide) gX1_182 ?_
            refine ma_bipush dX1_carry_49 ?_
            refine ma_aload_n dX1_carry_51 rfl ?_
            refine ma_getf dX1_carry_52 fX1_92 (by first | exact ma_up_s _ _ _ | exact (ma_up_n (Ne.symm (by assumption))).trans (by assumption)) (by rfl) ?_
            refine ma_iload_n dX1_carry_55 rfl ?_
            refine ma_iald dX1_carry_56 (by first | exact ma_up_s _ _ _ | exact (ma_up_n (Ne.symm (by assumption))).trans (by assumption)) (by omega) (by omega) (by omega) ?_
            refine ma_bipush dX1_carry_57 ?_
            refine ma_kand 5 32 dX1_carry_59 (by decide) (by decide +kernel) (by decide) ?_
            refine ma_imul dX1_carry_60 ?_
            refine ma_getsN (j := 1) dX1_carry_61 (by decide) gX1_185 ?_
            refine ma_aload_n dX1_carry_64 rfl ?_
            refine ma_getf dX1_carry_65 fX1_22 (by first | exact ma_up_s _ _ _ | exact (ma_up_n (Ne.symm (by assumption))).trans (by assumption)) (by rfl) ?_
            refine ma_iload_n dX1_carry_68 rfl ?_
            refine ma_iald dX1_carry_69 (by first | exact ma_up_s _ _ _ | exact (ma_up_n (Ne.symm (by assumption))).trans (by assumption)) (by omega) (by omega) (by omega) ?_
            refine ma_tald (j := 1) (n := 24) dX1_carry_70 (by decide) tl_1 (by omega) (by omega) (by decide) ?_
            refine ma_iadd dX1_carry_71 ?_
            refine ma_tald (j := 4) (n := 576) dX1_carry_72 (by decide) tl_4 (by omega) (by omega) (by decide) ?_
            refine ma_istoreN dX1_carry_73 (by decide) rfl ?_
            refine ma_iconst dX1_carry_75 ?_
            refine ma_aload_n dX1_carry_76 rfl ?_
            refine ma_getf dX1_carry_77 fX1_18 (by first | exact ma_up_s _ _ _ | exact (ma_up_n (Ne.symm (by assumption))).trans (by assumption)) (by rfl) ?_
            refine ma_iload_n dX1_carry_80 rfl ?_
            refine ma_iald dX1_carry_81 (by first | exact ma_up_s _ _ _ | exact (ma_up_n (Ne.symm (by assumption))).trans (by assumption)) (by omega) (by omega) (by omega) ?_
            refine ma_imul dX1_carry_82 ?_
            refine ma_getsN (j := 0) dX1_carry_83 (by decide) gX1_179 ?_
            refine ma_iconst dX1_carry_86 ?_
            refine ma_aload_n dX1_carry_87 rfl ?_
            refine ma_getf dX1_carry_88 fX1_22 (by first | exact ma_up_s _ _ _ | exact (ma_up_n (Ne.symm (by assumption))).trans (by assumption)) (by rfl) ?_
            refine ma_iload_n dX1_carry_91 rfl ?_
            refine ma_iald dX1_carry_92 (by first | exact ma_up_s _ _ _ | exact (ma_up_n (Ne.symm (by assumption))).trans (by assumption)) (by omega) (by omega) (by omega) ?_
            refine ma_imul dX1_carry_93 ?_
            refine ma_iload_n dX1_carry_94 rfl ?_
            refine ma_iconst dX1_carry_95 ?_
            refine ma_kand 2 4 dX1_carry_96 (by decide) (by decide +kernel) (by decide) ?_
            refine ma_iadd dX1_carry_97 ?_
            refine ma_tald (j := 0) (n := 96) dX1_carry_98 (by decide) tl_0 (by omega) (by omega) (by decide) ?_
            refine ma_iadd dX1_carry_99 ?_
            refine ma_istoreN dX1_carry_100 (by decide) rfl ?_
            refine ma_aload_n dX1_carry_102 rfl ?_
            refine ma_getf dX1_carry_103 fX1_92 (by first | exact ma_up_s _ _ _ | exact (ma_up_n (Ne.symm (by assumption))).trans (by assumption)) (by rfl) ?_
            refine ma_iload dX1_carry_106 rfl ?_
            refine ma_aload_n dX1_carry_108 rfl ?_
            refine ma_getf dX1_carry_109 fX1_18 (by first | exact ma_up_s _ _ _ | exact (ma_up_n (Ne.symm (by assumption))).trans (by assumption)) (by rfl) ?_
            refine ma_iload dX1_carry_112 rfl ?_
            refine ma_iald dX1_carry_114 (by first | exact ma_up_s _ _ _ | exact (ma_up_n (Ne.symm (by assumption))).trans (by assumption)) (by omega) (by omega) (by omega) ?_
            refine ma_iconst dX1_carry_115 ?_
            refine ma_kshl 32 dX1_carry_116 (by decide) ?_
            refine ma_getsN (j := 4) dX1_carry_117 (by decide) gX1_182 ?_
            refine ma_bipush dX1_carry_120 ?_
            refine ma_aload_n dX1_carry_122 rfl ?_
            refine ma_getf dX1_carry_123 fX1_22 (by first | exact ma_up_s _ _ _ | exact (ma_up_n (Ne.symm (by assumption))).trans (by assumption)) (by rfl) ?_
            refine ma_iload dX1_carry_126 rfl ?_
            refine ma_iald dX1_carry_128 (by first | exact ma_up_s _ _ _ | exact (ma_up_n (Ne.symm (by assumption))).trans (by assumption)) (by omega) (by omega) (by omega) ?_
            refine ma_imul dX1_carry_129 ?_
            refine ma_iload dX1_carry_130 rfl ?_
            refine ma_iadd dX1_carry_132 ?_
            refine ma_tald (j := 4) (n := 576) dX1_carry_133 (by decide) tl_4 (by omega) (by omega) (by decide) ?_
            refine ma_kor5 dX1_carry_134 (by constructor <;> omega) (by constructor <;> omega) ?_
            refine ma_iast dX1_carry_135 (by first | exact ma_up_s _ _ _ | exact (ma_up_n (Ne.symm (by assumption))).trans (by assumption)) (by omega) (by omega) (by omega) ?_
            rw [ma_up_up]
            refine ma_iincN dX1_carry_136 rfl (by decide) rfl ?_
            refine ma_goto 2 dX1_carry_139 rfl ?_
            have es := cy_s (G := G) (H := H) (T := T) (C := C) h0
            first
              | (rw [if_neg (by omega)] at es; rw [← es]; exact ih (k + 1) _ _ _ (by omega) (by omega) (by omega))
              | (rw [if_neg (fun z => by have := hpt.1; omega)] at es; rw [← es]; exact ih (k + 1) _ _ _ (by omega) (by omega) (by omega))
              | (rw [if_pos (by omega)] at es; change ma_J none mX1_carry (d + 1) 0 0 2 _ [] (ma_up h e (ci 32 (uf (cy G H T C k.toNat) (cyn H T k) (cyv G H T k)))) nx Q; rw [← es]; exact ih (k + 1) _ _ _ (by omega) (by omega) (by omega))
          · -- 43
            refine ma_goto 136 dX1_carry_43 rfl ?_
            refine ma_iincN dX1_carry_136 rfl (by decide) rfl ?_
            refine ma_goto 2 dX1_carry_139 rfl ?_
            have es := cy_s (G := G) (H := H) (T := T) (C := C) h0
            first
              | (rw [if_neg (by omega)] at es; rw [← es]; exact ih (k + 1) _ _ _ (by omega) (by omega) (by omega))
              | (rw [if_neg (fun z => by have := hpt.1; omega)] at es; rw [← es]; exact ih (k + 1) _ _ _ (by omega) (by omega) (by omega))
              | (rw [if_pos (by omega)] at es; change ma_J none mX1_carry (d + 1) 0 0 2 _ [] (ma_up h e (ci 32 (uf (cy G H T C k.toNat) (cyn H T k) (cyv G H T k)))) nx Q; rw [← es]; exact ih (k + 1) _ _ _ (by omega) (by omega) (by omega))
theorem c_X1_carry {h : ma_H} {b g c e nx d : Nat} {t u : Int} {G H T C : Int → Int} {Q : Option ma_V → ma_H → Nat → Prop} (hm : h 54 = co 1 [vr 44, vr 39, vr 55, vr 57, vr 58]) (hb : h b = co 8 [vi t, vr g]) (hg : h g = ci 32 G) (hH : h 57 = ci 32 H) (hT : h 58 = ci 32 T) (hc : h c = co 8 [vi u, vr e]) (n1 : e ≠ 54) (n2 : e ≠ b) (n3 : e ≠ g) (n4 : e ≠ 57) (n5 : e ≠ 58) (n6 : e ≠ c) (hG : VG t G) (rH : ∀ j, 0 ≤ j → j < 4 * t → -1 ≤ H j ∧ H j < 8) (rT : ∀ j, 0 ≤ j → j < 4 * t → 0 ≤ T j ∧ T j < 24) (he : h e = ci 32 C) (K : Q none (ma_up h e (ci 32 (cy G H T C (4 * t).toNat))) nx) : ma_Ct mX1_carry (d + 1) 0 0 [vr 54, vr b, vr c] h nx Q := by
  have ht := hG.1
  refine ma_Ct.of (by decide +kernel) (Nat.le_of_ble_eq_true rfl) ?_
  rw [show h = ma_up h e (ci 32 (cy G H T C (0 : Int).toNat)) from (ma_up_id he).symm]
  refine ma_iconst dX1_carry_0 ?_
  refine ma_istore_nN dX1_carry_1 (by decide) rfl ?_
  exact l_X1_carry_2 hm hb hg hH hT hc n1 n2 n3 n4 n5 n6 hG rH rT K 33 0 _ _ _ (by omega) (by omega) (by omega)
