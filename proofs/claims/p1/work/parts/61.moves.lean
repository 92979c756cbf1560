set_option maxHeartbeats 2000000 in
theorem c_X1_two0 {h : ma_H} {b g c e nx d : Nat} {t u k : Int} {G C H T : Int → Int} {Q : Option ma_V → ma_H → Nat → Prop} (hm : h 54 = co 1 [vr 44, vr 39, vr 55, vr 57, vr 58]) (hb : h b = co 8 [vi t, vr g]) (hg : h g = ci 32 G) (hc : h c = co 8 [vi u, vr e]) (he : h e = ci 32 C) (nb : b ≠ 57 ∧ b ≠ 58) (ng : g ≠ 57 ∧ g ≠ 58) (nc : c ≠ 57 ∧ c ≠ 58) (ne : e ≠ 57 ∧ e ≠ 58 ∧ e ≠ 54) (n2 : e ≠ b) (n3 : e ≠ g) (n6 : e ≠ c) (hG : VG t G) (hk : 0 ≤ k ∧ k < 4 * t) (hf : k % 4 = 0) (hk2 : 0 ≤ G k ∧ G k / 32 ≠ k / 4) (h7 : t ≤ 7) (K : ∀ H T, (∀ j, 0 ≤ j → j < 4 * t → H j = lo (fun i => i = k / 4 ∨ i = G k / 32) j ∧ T j = 0) → Q none (ma_up (vh h (uf (uf (uf (uf (uf (uf H (4 * (k / 4) + 1) (t - 2)) (4 * (G k / 32) + im (G k % 32) 1) (t - 2)) (4 * (k / 4) + 2) (t - 2 + 1)) (4 * (G k / 32) + im (G k % 32) 2) (t - 2 + 1)) (4 * (k / 4) + 3) (t - 2 + 1 + 1)) (4 * (G k / 32) + im (G k % 32) 3) (t - 2 + 1 + 1)) (uf (uf (uf (uf (uf (uf T (4 * (k / 4) + 1) (0)) (4 * (G k / 32) + im (G k % 32) 1) (af (sx 0 1) (iv (G k % 32)))) (4 * (k / 4) + 2) (0)) (4 * (G k / 32) + im (G k % 32) 2) (af (sx 0 2) (iv (G k % 32)))) (4 * (k / 4) + 3) (0)) (4 * (G k / 32) + im (G k % 32) 3) (af (sx 0 3) (iv (G k % 32))))) e (ci 32 (fj (fj (fj (cy G (uf (uf (uf (uf (uf (uf H (4 * (k / 4) + 1) (t - 2)) (4 * (G k / 32) + im (G k % 32) 1) (t - 2)) (4 * (k / 4) + 2) (t - 2 + 1)) (4 * (G k / 32) + im (G k % 32) 2) (t - 2 + 1)) (4 * (k / 4) + 3) (t - 2 + 1 + 1)) (4 * (G k / 32) + im (G k % 32) 3) (t - 2 + 1 + 1)) (uf (uf (uf (uf (uf (uf T (4 * (k / 4) + 1) (0)) (4 * (G k / 32) + im (G k % 32) 1) (af (sx 0 1) (iv (G k % 32)))) (4 * (k / 4) + 2) (0)) (4 * (G k / 32) + im (G k % 32) 2) (af (sx 0 2) (iv (G k % 32)))) (4 * (k / 4) + 3) (0)) (4 * (G k / 32) + im (G k % 32) 3) (af (sx 0 3) (iv (G k % 32)))) C (4 * t).toNat) (t - 2 + 0) (t - 2 + 1) 1 2) (t - 2 + 0) (t - 2 + 2) 1 3) (t - 2 + 1) (t - 2 + 2) 2 3))) nx) : ma_Ct mX1_twoToThree (d + 2) 0 0 [vr 54, vr b, vi k, vr c] (vh h H T) nx Q := by
  have ht := hG.1
  have hg1 : 0 ≤ G k ∧ G k / 32 < t ∧ G k % 32 < 24 ∧ G k < 256 := by
    rcases hG.2.1 k hk.1 hk.2 with z | z
    · omega
    · exact ⟨z.1, z.2.1, z.2.2.1, by omega⟩
  have ip := iv_in (show 0 ≤ G k % 32 by omega) hg1.2.2.1
  have a1 := af_in (sx_ok (i := 0) (j := 1) (by decide) (by decide) (by decide) (by decide)).1 (sx_ok (i := 0) (j := 1) (by decide) (by decide) (by decide) (by decide)).2.1 ip.1 ip.2
  have a2 := af_in (sx_ok (i := 0) (j := 2) (by decide) (by decide) (by decide) (by decide)).1 (sx_ok (i := 0) (j := 2) (by decide) (by decide) (by decide) (by decide)).2.1 ip.1 ip.2
  have a3 := af_in (sx_ok (i := 0) (j := 3) (by decide) (by decide) (by decide) (by decide)).1 (sx_ok (i := 0) (j := 3) (by decide) (by decide) (by decide) (by decide)).2.1 ip.1 ip.2
  have b1 := im_in (show 0 ≤ G k % 32 by omega) hg1.2.2.1 (show (0 : Int) ≤ 1 by decide) (by decide)
  have b2 := im_in (show 0 ≤ G k % 32 by omega) hg1.2.2.1 (show (0 : Int) ≤ 2 by decide) (by decide)
  have b3 := im_in (show 0 ≤ G k % 32 by omega) hg1.2.2.1 (show (0 : Int) ≤ 3 by decide) (by decide)
  refine ma_Ct.of (by decide +kernel) (Nat.le_of_ble_eq_true rfl) ?_
  refine ma_iload_n dX1_twoToThree_0 rfl ?_
  refine ma_iconst dX1_twoToThree_1 ?_
  refine ma_kshr 4 dX1_twoToThree_2 (by decide) (by constructor <;> omega) ?_
  refine ma_istoreN dX1_twoToThree_3 (by decide) rfl ?_
  refine ma_iload_n dX1_twoToThree_5 rfl ?_
  refine ma_iconst dX1_twoToThree_6 ?_
  refine ma_kand 2 4 dX1_twoToThree_7 (by decide) (by decide +kernel) (by decide) ?_
  rw [hf]
  refine ma_istoreN dX1_twoToThree_8 (by decide) rfl ?_
  refine ma_aload_n dX1_twoToThree_10 rfl ?_
  refine ma_getf dX1_twoToThree_11 fX1_92 (by first | exact vh_57 | exact vh_58 | exact (vh_n (by omega)).trans (by assumption)) (by rfl) ?_
  refine ma_iload_n dX1_twoToThree_14 rfl ?_
  refine ma_iald dX1_twoToThree_15 (by first | exact vh_57 | exact vh_58 | exact (vh_n (by omega)).trans (by assumption)) (by omega) (by omega) (by omega) ?_
  refine ma_iconst dX1_twoToThree_16 ?_
  refine ma_kshr 32 dX1_twoToThree_17 (by decide) (by constructor <;> omega) ?_
  refine ma_istoreN dX1_twoToThree_18 (by decide) rfl ?_
  refine ma_aload_n dX1_twoToThree_20 rfl ?_
  refine ma_aload_n dX1_twoToThree_21 rfl ?_
  refine ma_iconst dX1_twoToThree_22 ?_
  refine ma_iload dX1_twoToThree_23 rfl ?_
  refine ma_ishl dX1_twoToThree_25 ?_
  refine ma_iconst dX1_twoToThree_26 ?_
  refine ma_iload dX1_twoToThree_27 rfl ?_
  refine ma_ishl dX1_twoToThree_29 ?_
  refine ma_ior dX1_twoToThree_30 ?_
  refine ma_cV [_, _] dX1_twoToThree_31 wX1_layOut lX1_154 iX1_layOut sX1_layOut rfl (by first | exact vh_57 | exact vh_58 | exact (vh_n (by omega)).trans (by assumption)) (Nat.le_of_ble_eq_true rfl) ?_
  refine c_X1_layOut (S := fun i => i = k / 4 ∨ i = G k / 32) hm hb nb (by omega) (mk_oo (mk_1 (by omega) (by omega)) (mk_1 (by omega) (by omega))) (fun H T hL => ?_)
  rw [sty_2 (by omega) (by omega) (by omega) (by omega) (by omega)]
  refine ma_istoreN dX1_twoToThree_34 (by decide) rfl ?_
  refine ma_iload dX1_twoToThree_36 rfl ?_
  refine ma_istoreN dX1_twoToThree_38 (by decide) rfl ?_
  refine ma_iconst dX1_twoToThree_40 ?_
  refine ma_istoreN dX1_twoToThree_41 (by decide) rfl ?_
  show ma_J none mX1_twoToThree (d + 2) 0 0 43 [some (vr 54), some (vr b), some (vi k), some (vr c), some (vi (k / 4)), some (vi 0), some (vi (G k / 32)), some (vi (t - 2)), _, some (vi 0)] [] _ nx Q
  refine ma_iload dX1_twoToThree_43 rfl ?_
  refine ma_iconst dX1_twoToThree_45 ?_
  refine ma_rcmp_ge 95 dX1_twoToThree_46 rfl (by decide) (by decide) (fun c46 => absurd c46 (by decide)) (fun c46 => ?_)
  refine ma_iload dX1_twoToThree_49 rfl ?_
  refine ma_iload dX1_twoToThree_51 rfl ?_
  refine ma_rcmp_eq 89 dX1_twoToThree_53 rfl (by decide) (by decide) (fun c53 => ?_) (fun c53 => absurd c53 (by decide))
  refine ma_iincK (1) dX1_twoToThree_89 rfl (by decide) rfl (by decide) ?_
  refine ma_goto 43 dX1_twoToThree_92 rfl ?_
  show ma_J none mX1_twoToThree (d + 2) 0 0 43 [some (vr 54), some (vr b), some (vi k), some (vr c), some (vi (k / 4)), some (vi 0), some (vi (G k / 32)), some (vi (t - 2)), _, some (vi 1)] [] _ nx Q
  refine ma_iload dX1_twoToThree_43 rfl ?_
  refine ma_iconst dX1_twoToThree_45 ?_
  refine ma_rcmp_ge 95 dX1_twoToThree_46 rfl (by decide) (by decide) (fun c46 => absurd c46 (by decide)) (fun c46 => ?_)
  refine ma_iload dX1_twoToThree_49 rfl ?_
  refine ma_iload dX1_twoToThree_51 rfl ?_
  refine ma_rcmp_eq 89 dX1_twoToThree_53 rfl (by decide) (by decide) (fun c53 => absurd c53 (by decide)) (fun c53 => ?_)
  refine ma_aload_n dX1_twoToThree_56 rfl ?_
  refine ma_iconst dX1_twoToThree_57 ?_
  refine ma_iload dX1_twoToThree_58 rfl ?_
  refine ma_imul dX1_twoToThree_60 ?_
  refine ma_iload dX1_twoToThree_61 rfl ?_
  refine ma_iadd dX1_twoToThree_63 ?_
  refine ma_iload dX1_twoToThree_64 rfl ?_
  refine ma_iconst dX1_twoToThree_66 ?_
  refine ma_cV [_, _, _] dX1_twoToThree_67 wX1_put lX1_157 iX1_put sX1_put rfl (by first | exact vh_57 | exact vh_58 | exact (vh_n (by omega)).trans (by assumption)) (Nat.le_of_ble_eq_true rfl) ?_
  refine c_X1_put hm (by constructor <;> omega) ?_
  refine ma_aload_n dX1_twoToThree_70 rfl ?_
  refine ma_aload_n dX1_twoToThree_71 rfl ?_
  refine ma_getf dX1_twoToThree_72 fX1_92 (by first | exact vh_57 | exact vh_58 | exact (vh_n (by omega)).trans (by assumption)) (by rfl) ?_
  refine ma_iload_n dX1_twoToThree_75 rfl ?_
  refine ma_iald dX1_twoToThree_76 (by first | exact vh_57 | exact vh_58 | exact (vh_n (by omega)).trans (by assumption)) (by omega) (by omega) (by omega) ?_
  refine ma_iload dX1_twoToThree_77 rfl ?_
  refine ma_iload dX1_twoToThree_79 rfl ?_
  refine ma_iload dX1_twoToThree_81 rfl ?_
  refine ma_cV [_, _, _, _] dX1_twoToThree_83 wX1_putBeyond lX1_161 iX1_putBeyond sX1_putBeyond rfl (by first | exact vh_57 | exact vh_58 | exact (vh_n (by omega)).trans (by assumption)) (Nat.le_of_ble_eq_true rfl) ?_
  refine c_X1_putBeyond hm (by constructor <;> omega) (by omega) (by decide) (by decide) ?_
  refine ma_iincN dX1_twoToThree_86 rfl (by decide) rfl ?_
  refine ma_iincK (2) dX1_twoToThree_89 rfl (by decide) rfl (by decide) ?_
  refine ma_goto 43 dX1_twoToThree_92 rfl ?_
  show ma_J none mX1_twoToThree (d + 2) 0 0 43 [some (vr 54), some (vr b), some (vi k), some (vr c), some (vi (k / 4)), some (vi 0), some (vi (G k / 32)), some (vi (t - 2)), _, some (vi 2)] [] _ nx Q
  refine ma_iload dX1_twoToThree_43 rfl ?_
  refine ma_iconst dX1_twoToThree_45 ?_
  refine ma_rcmp_ge 95 dX1_twoToThree_46 rfl (by decide) (by decide) (fun c46 => absurd c46 (by decide)) (fun c46 => ?_)
  refine ma_iload dX1_twoToThree_49 rfl ?_
  refine ma_iload dX1_twoToThree_51 rfl ?_
  refine ma_rcmp_eq 89 dX1_twoToThree_53 rfl (by decide) (by decide) (fun c53 => absurd c53 (by decide)) (fun c53 => ?_)
  refine ma_aload_n dX1_twoToThree_56 rfl ?_
  refine ma_iconst dX1_twoToThree_57 ?_
  refine ma_iload dX1_twoToThree_58 rfl ?_
  refine ma_imul dX1_twoToThree_60 ?_
  refine ma_iload dX1_twoToThree_61 rfl ?_
  refine ma_iadd dX1_twoToThree_63 ?_
  refine ma_iload dX1_twoToThree_64 rfl ?_
  refine ma_iconst dX1_twoToThree_66 ?_
  refine ma_cV [_, _, _] dX1_twoToThree_67 wX1_put lX1_157 iX1_put sX1_put rfl (by first | exact vh_57 | exact vh_58 | exact (vh_n (by omega)).trans (by assumption)) (Nat.le_of_ble_eq_true rfl) ?_
  refine c_X1_put hm (by constructor <;> omega) ?_
  refine ma_aload_n dX1_twoToThree_70 rfl ?_
  refine ma_aload_n dX1_twoToThree_71 rfl ?_
  refine ma_getf dX1_twoToThree_72 fX1_92 (by first | exact vh_57 | exact vh_58 | exact (vh_n (by omega)).trans (by assumption)) (by rfl) ?_
  refine ma_iload_n dX1_twoToThree_75 rfl ?_
  refine ma_iald dX1_twoToThree_76 (by first | exact vh_57 | exact vh_58 | exact (vh_n (by omega)).trans (by assumption)) (by omega) (by omega) (by omega) ?_
  refine ma_iload dX1_twoToThree_77 rfl ?_
  refine ma_iload dX1_twoToThree_79 rfl ?_
  refine ma_iload dX1_twoToThree_81 rfl ?_
  refine ma_cV [_, _, _, _] dX1_twoToThree_83 wX1_putBeyond lX1_161 iX1_putBeyond sX1_putBeyond rfl (by first | exact vh_57 | exact vh_58 | exact (vh_n (by omega)).trans (by assumption)) (Nat.le_of_ble_eq_true rfl) ?_
  refine c_X1_putBeyond hm (by constructor <;> omega) (by omega) (by decide) (by decide) ?_
  refine ma_iincN dX1_twoToThree_86 rfl (by decide) rfl ?_
  refine ma_iincK (3) dX1_twoToThree_89 rfl (by decide) rfl (by decide) ?_
  refine ma_goto 43 dX1_twoToThree_92 rfl ?_
  show ma_J none mX1_twoToThree (d + 2) 0 0 43 [some (vr 54), some (vr b), some (vi k), some (vr c), some (vi (k / 4)), some (vi 0), some (vi (G k / 32)), some (vi (t - 2)), _, some (vi 3)] [] _ nx Q
  refine ma_iload dX1_twoToThree_43 rfl ?_
  refine ma_iconst dX1_twoToThree_45 ?_
  refine ma_rcmp_ge 95 dX1_twoToThree_46 rfl (by decide) (by decide) (fun c46 => absurd c46 (by decide)) (fun c46 => ?_)
  refine ma_iload dX1_twoToThree_49 rfl ?_
  refine ma_iload dX1_twoToThree_51 rfl ?_
  refine ma_rcmp_eq 89 dX1_twoToThree_53 rfl (by decide) (by decide) (fun c53 => absurd c53 (by decide)) (fun c53 => ?_)
  refine ma_aload_n dX1_twoToThree_56 rfl ?_
  refine ma_iconst dX1_twoToThree_57 ?_
  refine ma_iload dX1_twoToThree_58 rfl ?_
  refine ma_imul dX1_twoToThree_60 ?_
  refine ma_iload dX1_twoToThree_61 rfl ?_
  refine ma_iadd dX1_twoToThree_63 ?_
  refine ma_iload dX1_twoToThree_64 rfl ?_
  refine ma_iconst dX1_twoToThree_66 ?_
  refine ma_cV [_, _, _] dX1_twoToThree_67 wX1_put lX1_157 iX1_put sX1_put rfl (by first | exact vh_57 | exact vh_58 | exact (vh_n (by omega)).trans (by assumption)) (Nat.le_of_ble_eq_true rfl) ?_
  refine c_X1_put hm (by constructor <;> omega) ?_
  refine ma_aload_n dX1_twoToThree_70 rfl ?_
  refine ma_aload_n dX1_twoToThree_71 rfl ?_
  refine ma_getf dX1_twoToThree_72 fX1_92 (by first | exact vh_57 | exact vh_58 | exact (vh_n (by omega)).trans (by assumption)) (by rfl) ?_
  refine ma_iload_n dX1_twoToThree_75 rfl ?_
  refine ma_iald dX1_twoToThree_76 (by first | exact vh_57 | exact vh_58 | exact (vh_n (by omega)).trans (by assumption)) (by omega) (by omega) (by omega) ?_
  refine ma_iload dX1_twoToThree_77 rfl ?_
  refine ma_iload dX1_twoToThree_79 rfl ?_
  refine ma_iload dX1_twoToThree_81 rfl ?_
  refine ma_cV [_, _, _, _] dX1_twoToThree_83 wX1_putBeyond lX1_161 iX1_putBeyond sX1_putBeyond rfl (by first | exact vh_57 | exact vh_58 | exact (vh_n (by omega)).trans (by assumption)) (Nat.le_of_ble_eq_true rfl) ?_
  refine c_X1_putBeyond hm (by constructor <;> omega) (by omega) (by decide) (by decide) ?_
  refine ma_iincN dX1_twoToThree_86 rfl (by decide) rfl ?_
  refine ma_iincK (4) dX1_twoToThree_89 rfl (by decide) rfl (by decide) ?_
  refine ma_goto 43 dX1_twoToThree_92 rfl ?_
  show ma_J none mX1_twoToThree (d + 2) 0 0 43 [some (vr 54), some (vr b), some (vi k), some (vr c), some (vi (k / 4)), some (vi 0), some (vi (G k / 32)), some (vi (t - 2)), _, some (vi 4)] [] _ nx Q
  refine ma_iload dX1_twoToThree_43 rfl ?_
  refine ma_iconst dX1_twoToThree_45 ?_
  refine ma_rcmp_ge 95 dX1_twoToThree_46 rfl (by decide) (by decide) (fun c46 => ?_) (fun c46 => absurd c46 (by decide))
  refine ma_aload_n dX1_twoToThree_95 rfl ?_
  refine ma_aload_n dX1_twoToThree_96 rfl ?_
  refine ma_aload_n dX1_twoToThree_97 rfl ?_
  refine ma_cV [_, _] dX1_twoToThree_98 wX1_carry lX1_165 iX1_carry sX1_carry rfl (by first | exact vh_57 | exact vh_58 | exact (vh_n (by omega)).trans (by assumption)) (Nat.le_of_ble_eq_true rfl) ?_
  refine c_X1_carry ((vh_n (by omega)).trans hm) ((vh_n (by omega)).trans hb) ((vh_n (by omega)).trans hg) vh_57 vh_58 ((vh_n (by omega)).trans hc) ne.2.2 n2 n3 ne.1 ne.2.1 n6 hG (uf_r (uf_r (uf_r (uf_r (uf_r (uf_r (fun j j0 j1 => by rw [(hL j j0 j1).1]; exact lo_in _ (by omega) j j0 j1) (by constructor <;> omega)) (by constructor <;> omega)) (by constructor <;> omega)) (by constructor <;> omega)) (by constructor <;> omega)) (by constructor <;> omega)) (uf_r (uf_r (uf_r (uf_r (uf_r (uf_r (fun j j0 j1 => by have := (hL j j0 j1).2; omega) (by decide)) a1) (by decide)) a2) (by decide)) a3) ((vh_n (by omega)).trans he) ?_
  refine ma_aload_n dX1_twoToThree_101 rfl ?_
  refine ma_iload dX1_twoToThree_102 rfl ?_
  refine ma_iload dX1_twoToThree_104 rfl ?_
  refine ma_cS [_, _, _] dX1_twoToThree_106 wX1_joinFan lX1_169 tX1_joinFan (Nat.le_of_ble_eq_true rfl) ?_
  refine c_X1_joinFan0 ((ma_up_n (Ne.symm n6)).trans ((vh_n (by omega)).trans hc)) (ma_up_s _ _ _) (Ne.symm n6) (by constructor <;> omega) ?_
  rw [ma_up_up]
  exact ma_vret dX1_twoToThree_109 rfl (K H T hL)
set_option maxHeartbeats 2000000 in
theorem c_X1_two1 {h : ma_H} {b g c e nx d : Nat} {t u k : Int} {G C H T : Int → Int} {Q : Option ma_V → ma_H → Nat → Prop} (hm : h 54 = co 1 [vr 44, vr 39, vr 55, vr 57, vr 58]) (hb : h b = co 8 [vi t, vr g]) (hg : h g = ci 32 G) (hc : h c = co 8 [vi u, vr e]) (he : h e = ci 32 C) (nb : b ≠ 57 ∧ b ≠ 58) (ng : g ≠ 57 ∧ g ≠ 58) (nc : c ≠ 57 ∧ c ≠ 58) (ne : e ≠ 57 ∧ e ≠ 58 ∧ e ≠ 54) (n2 : e ≠ b) (n3 : e ≠ g) (n6 : e ≠ c) (hG : VG t G) (hk : 0 ≤ k ∧ k < 4 * t) (hf : k % 4 = 1) (hk2 : 0 ≤ G k ∧ G k / 32 ≠ k / 4) (h7 : t ≤ 7) (K : ∀ H T, (∀ j, 0 ≤ j → j < 4 * t → H j = lo (fun i => i = k / 4 ∨ i = G k / 32) j ∧ T j = 0) → Q none (ma_up (vh h (uf (uf (uf (uf (uf (uf H (4 * (k / 4) + 0) (t - 2)) (4 * (G k / 32) + im (G k % 32) 0) (t - 2)) (4 * (k / 4) + 2) (t - 2 + 1)) (4 * (G k / 32) + im (G k % 32) 2) (t - 2 + 1)) (4 * (k / 4) + 3) (t - 2 + 1 + 1)) (4 * (G k / 32) + im (G k % 32) 3) (t - 2 + 1 + 1)) (uf (uf (uf (uf (uf (uf T (4 * (k / 4) + 0) (0)) (4 * (G k / 32) + im (G k % 32) 0) (af (sx 1 0) (iv (G k % 32)))) (4 * (k / 4) + 2) (0)) (4 * (G k / 32) + im (G k % 32) 2) (af (sx 1 2) (iv (G k % 32)))) (4 * (k / 4) + 3) (0)) (4 * (G k / 32) + im (G k % 32) 3) (af (sx 1 3) (iv (G k % 32))))) e (ci 32 (fj (fj (fj (cy G (uf (uf (uf (uf (uf (uf H (4 * (k / 4) + 0) (t - 2)) (4 * (G k / 32) + im (G k % 32) 0) (t - 2)) (4 * (k / 4) + 2) (t - 2 + 1)) (4 * (G k / 32) + im (G k % 32) 2) (t - 2 + 1)) (4 * (k / 4) + 3) (t - 2 + 1 + 1)) (4 * (G k / 32) + im (G k % 32) 3) (t - 2 + 1 + 1)) (uf (uf (uf (uf (uf (uf T (4 * (k / 4) + 0) (0)) (4 * (G k / 32) + im (G k % 32) 0) (af (sx 1 0) (iv (G k % 32)))) (4 * (k / 4) + 2) (0)) (4 * (G k / 32) + im (G k % 32) 2) (af (sx 1 2) (iv (G k % 32)))) (4 * (k / 4) + 3) (0)) (4 * (G k / 32) + im (G k % 32) 3) (af (sx 1 3) (iv (G k % 32)))) C (4 * t).toNat) (t - 2 + 0) (t - 2 + 1) 0 2) (t - 2 + 0) (t - 2 + 2) 0 3) (t - 2 + 1) (t - 2 + 2) 2 3))) nx) : ma_Ct mX1_twoToThree (d + 2) 0 0 [vr 54, vr b, vi k, vr c] (vh h H T) nx Q := by
  have ht := hG.1
  have hg1 : 0 ≤ G k ∧ G k / 32 < t ∧ G k % 32 < 24 ∧ G k < 256 := by
    rcases hG.2.1 k hk.1 hk.2 with z | z
    · omega
    · exact ⟨z.1, z.2.1, z.2.2.1, by omega⟩
  have ip := iv_in (show 0 ≤ G k % 32 by omega) hg1.2.2.1
  have a0 := af_in (sx_ok (i := 1) (j := 0) (by decide) (by decide) (by decide) (by decide)).1 (sx_ok (i := 1) (j := 0) (by decide) (by decide) (by decide) (by decide)).2.1 ip.1 ip.2
  have a2 := af_in (sx_ok (i := 1) (j := 2) (by decide) (by decide) (by decide) (by decide)).1 (sx_ok (i := 1) (j := 2) (by decide) (by decide) (by decide) (by decide)).2.1 ip.1 ip.2
  have a3 := af_in (sx_ok (i := 1) (j := 3) (by decide) (by decide) (by decide) (by decide)).1 (sx_ok (i := 1) (j := 3) (by decide) (by decide) (by decide) (by decide)).2.1 ip.1 ip.2
  have b0 := im_in (show 0 ≤ G k % 32 by omega) hg1.2.2.1 (show (0 : Int) ≤ 0 by decide) (by decide)
  have b2 := im_in (show 0 ≤ G k % 32 by omega) hg1.2.2.1 (show (0 : Int) ≤ 2 by decide) (by decide)
  have b3 := im_in (show 0 ≤ G k % 32 by omega) hg1.2.2.1 (show (0 : Int) ≤ 3 by decide) (by decide)
  refine ma_Ct.of (by decide +kernel) (Nat.le_of_ble_eq_true rfl) ?_
  refine ma_iload_n dX1_twoToThree_0 rfl ?_
  refine ma_iconst dX1_twoToThree_1 ?_
  refine ma_kshr 4 dX1_twoToThree_2 (by decide) (by constructor <;> omega) ?_
  refine ma_istoreN dX1_twoToThree_3 (by decide) rfl ?_
  refine ma_iload_n dX1_twoToThree_5 rfl ?_
  refine ma_iconst dX1_twoToThree_6 ?_
  refine ma_kand 2 4 dX1_twoToThree_7 (by decide) (by decide +kernel) (by decide) ?_
  rw [hf]
  refine ma_istoreN dX1_twoToThree_8 (by decide) rfl ?_
  refine ma_aload_n dX1_twoToThree_10 rfl ?_
  refine ma_getf dX1_twoToThree_11 fX1_92 (by first | exact vh_57 | exact vh_58 | exact (vh_n (by omega)).trans (by assumption)) (by rfl) ?_
  refine ma_iload_n dX1_twoToThree_14 rfl ?_
  refine ma_iald dX1_twoToThree_15 (by first | exact vh_57 | exact vh_58 | exact (vh_n (by omega)).trans (by assumption)) (by omega) (by omega) (by omega) ?_
  refine ma_iconst dX1_twoToThree_16 ?_
  refine ma_kshr 32 dX1_twoToThree_17 (by decide) (by constructor <;> omega) ?_
  refine ma_istoreN dX1_twoToThree_18 (by decide) rfl ?_
  refine ma_aload_n dX1_twoToThree_20 rfl ?_
  refine ma_aload_n dX1_twoToThree_21 rfl ?_
  refine ma_iconst dX1_twoToThree_22 ?_
  refine ma_iload dX1_twoToThree_23 rfl ?_
  refine ma_ishl dX1_twoToThree_25 ?_
  refine ma_iconst dX1_twoToThree_26 ?_
  refine ma_iload dX1_twoToThree_27 rfl ?_
  refine ma_ishl dX1_twoToThree_29 ?_
  refine ma_ior dX1_twoToThree_30 ?_
  refine ma_cV [_, _] dX1_twoToThree_31 wX1_layOut lX1_154 iX1_layOut sX1_layOut rfl (by first | exact vh_57 | exact vh_58 | exact (vh_n (by omega)).trans (by assumption)) (Nat.le_of_ble_eq_true rfl) ?_
  refine c_X1_layOut (S := fun i => i = k / 4 ∨ i = G k / 32) hm hb nb (by omega) (mk_oo (mk_1 (by omega) (by omega)) (mk_1 (by omega) (by omega))) (fun H T hL => ?_)
  rw [sty_2 (by omega) (by omega) (by omega) (by omega) (by omega)]
  refine ma_istoreN dX1_twoToThree_34 (by decide) rfl ?_
  refine ma_iload dX1_twoToThree_36 rfl ?_
  refine ma_istoreN dX1_twoToThree_38 (by decide) rfl ?_
  refine ma_iconst dX1_twoToThree_40 ?_
  refine ma_istoreN dX1_twoToThree_41 (by decide) rfl ?_
  show ma_J none mX1_twoToThree (d + 2) 0 0 43 [some (vr 54), some (vr b), some (vi k), some (vr c), some (vi (k / 4)), some (vi 1), some (vi (G k / 32)), some (vi (t - 2)), _, some (vi 0)] [] _ nx Q
  refine ma_iload dX1_twoToThree_43 rfl ?_
  refine ma_iconst dX1_twoToThree_45 ?_
  refine ma_rcmp_ge 95 dX1_twoToThree_46 rfl (by decide) (by decide) (fun c46 => absurd c46 (by decide)) (fun c46 => ?_)
  refine ma_iload dX1_twoToThree_49 rfl ?_
  refine ma_iload dX1_twoToThree_51 rfl ?_
  refine ma_rcmp_eq 89 dX1_twoToThree_53 rfl (by decide) (by decide) (fun c53 => absurd c53 (by decide)) (fun c53 => ?_)
  refine ma_aload_n dX1_twoToThree_56 rfl ?_
  refine ma_iconst dX1_twoToThree_57 ?_
  refine ma_iload dX1_twoToThree_58 rfl ?_
  refine ma_imul dX1_twoToThree_60 ?_
  refine ma_iload dX1_twoToThree_61 rfl ?_
  refine ma_iadd dX1_twoToThree_63 ?_
  refine ma_iload dX1_twoToThree_64 rfl ?_
  refine ma_iconst dX1_twoToThree_66 ?_
  refine ma_cV [_, _, _] dX1_twoToThree_67 wX1_put lX1_157 iX1_put sX1_put rfl (by first | exact vh_57 | exact vh_58 | exact (vh_n (by omega)).trans (by assumption)) (Nat.le_of_ble_eq_true rfl) ?_
  refine c_X1_put hm (by constructor <;> omega) ?_
  refine ma_aload_n dX1_twoToThree_70 rfl ?_
  refine ma_aload_n dX1_twoToThree_71 rfl ?_
  refine ma_getf dX1_twoToThree_72 fX1_92 (by first | exact vh_57 | exact vh_58 | exact (vh_n (by omega)).trans (by assumption)) (by rfl) ?_
  refine ma_iload_n dX1_twoToThree_75 rfl ?_
  refine ma_iald dX1_twoToThree_76 (by first | exact vh_57 | exact vh_58 | exact (vh_n (by omega)).trans (by assumption)) (by omega) (by omega) (by omega) ?_
  refine ma_iload dX1_twoToThree_77 rfl ?_
  refine ma_iload dX1_twoToThree_79 rfl ?_
  refine ma_iload dX1_twoToThree_81 rfl ?_
  refine ma_cV [_, _, _, _] dX1_twoToThree_83 wX1_putBeyond lX1_161 iX1_putBeyond sX1_putBeyond rfl (by first | exact vh_57 | exact vh_58 | exact (vh_n (by omega)).trans (by assumption)) (Nat.le_of_ble_eq_true rfl) ?_
  refine c_X1_putBeyond hm (by constructor <;> omega) (by omega) (by decide) (by decide) ?_
  refine ma_iincN dX1_twoToThree_86 rfl (by decide) rfl ?_
  refine ma_iincK (1) dX1_twoToThree_89 rfl (by decide) rfl (by decide) ?_
  refine ma_goto 43 dX1_twoToThree_92 rfl ?_
  show ma_J none mX1_twoToThree (d + 2) 0 0 43 [some (vr 54), some (vr b), some (vi k), some (vr c), some (vi (k / 4)), some (vi 1), some (vi (G k / 32)), some (vi (t - 2)), _, some (vi 1)] [] _ nx Q
  refine ma_iload dX1_twoToThree_43 rfl ?_
  refine ma_iconst dX1_twoToThree_45 ?_
  refine ma_rcmp_ge 95 dX1_twoToThree_46 rfl (by decide) (by decide) (fun c46 => absurd c46 (by decide)) (fun c46 => ?_)
  refine ma_iload dX1_twoToThree_49 rfl ?_
  refine ma_iload dX1_twoToThree_51 rfl ?_
  refine ma_rcmp_eq 89 dX1_twoToThree_53 rfl (by decide) (by decide) (fun c53 => ?_) (fun c53 => absurd c53 (by decide))
  refine ma_iincK (2) dX1_twoToThree_89 rfl (by decide) rfl (by decide) ?_
  refine ma_goto 43 dX1_twoToThree_92 rfl ?_
  show ma_J none mX1_twoToThree (d + 2) 0 0 43 [some (vr 54), some (vr b), some (vi k), some (vr c), some (vi (k / 4)), some (vi 1), some (vi (G k / 32)), some (vi (t - 2)), _, some (vi 2)] [] _ nx Q
  refine ma_iload dX1_twoToThree_43 rfl ?_
  refine ma_iconst dX1_twoToThree_45 ?_
  refine ma_rcmp_ge 95 dX1_twoToThree_46 rfl (by decide) (by decide) (fun c46 => absurd c46 (by decide)) (fun c46 => ?_)
  refine ma_iload dX1_twoToThree_49 rfl ?_
  refine ma_iload dX1_twoToThree_51 rfl ?_
  refine ma_rcmp_eq 89 dX1_twoToThree_53 rfl (by decide) (by decide) (fun c53 => absurd c53 (by decide)) (fun c53 => ?_)
  refine ma_aload_n dX1_twoToThree_56 rfl ?_
  refine ma_iconst dX1_twoToThree_57 ?_
  refine ma_iload dX1_twoToThree_58 rfl ?_
  refine ma_imul dX1_twoToThree_60 ?_
  refine ma_iload dX1_twoToThree_61 rfl ?_
  refine ma_iadd dX1_twoToThree_63 ?_
  refine ma_iload dX1_twoToThree_64 rfl ?_
  refine ma_iconst dX1_twoToThree_66 ?_
  refine ma_cV [_, _, _] dX1_twoToThree_67 wX1_put lX1_157 iX1_put sX1_put rfl (by first | exact vh_57 | exact vh_58 | exact (vh_n (by omega)).trans (by assumption)) (Nat.le_of_ble_eq_true rfl) ?_
  refine c_X1_put hm (by constructor <;> omega) ?_
  refine ma_aload_n dX1_twoToThree_70 rfl ?_
  refine ma_aload_n dX1_twoToThree_71 rfl ?_
  refine ma_getf dX1_twoToThree_72 fX1_92 (by first | exact vh_57 | exact vh_58 | exact (vh_n (by omega)).trans (by assumption)) (by rfl) ?_
  refine ma_iload_n dX1_twoToThree_75 rfl ?_
  refine ma_iald dX1_twoToThree_76 (by first | exact vh_57 | exact vh_58 | exact (vh_n (by omega)).trans (by assumption)) (by omega) (by omega) (by omega) ?_
  refine ma_iload dX1_twoToThree_77 rfl ?_
  refine ma_iload dX1_twoToThree_79 rfl ?_
  refine ma_iload dX1_twoToThree_81 rfl ?_
  refine ma_cV [_, _, _, _] dX1_twoToThree_83 wX1_putBeyond lX1_161 iX1_putBeyond sX1_putBeyond rfl (by first | exact vh_57 | exact vh_58 | exact (vh_n (by omega)).trans (by assumption)) (Nat.le_of_ble_eq_true rfl) ?_
  refine c_X1_putBeyond hm (by constructor <;> omega) (by omega) (by decide) (by decide) ?_
  refine ma_iincN dX1_twoToThree_86 rfl (by decide) rfl ?_
  refine ma_iincK (3) dX1_twoToThree_89 rfl (by decide) rfl (by decide) ?_
  refine ma_goto 43 dX1_twoToThree_92 rfl ?_
  show ma_J none mX1_twoToThree (d + 2) 0 0 43 [some (vr 54), some (vr b), some (vi k), some (vr c), some (vi (k / 4)), some (vi 1), some (vi (G k / 32)), some (vi (t - 2)), _, some (vi 3)] [] _ nx Q
  refine ma_iload dX1_twoToThree_43 rfl ?_
  refine ma_iconst dX1_twoToThree_45 ?_
  refine ma_rcmp_ge 95 dX1_twoToThree_46 rfl (by decide) (by decide) (fun c46 => absurd c46 (by decide)) (fun c46 => ?_)
  refine ma_iload dX1_twoToThree_49 rfl ?_
  refine ma_iload dX1_twoToThree_51 rfl ?_
  refine ma_rcmp_eq 89 dX1_twoToThree_53 rfl (by decide) (by decide) (fun c53 => absurd c53 (by decide)) (fun c53 => ?_)
  refine ma_aload_n dX1_twoToThree_56 rfl ?_
  refine ma_iconst dX1_twoToThree_57 ?_
  refine ma_iload dX1_twoToThree_58 rfl ?_
  refine ma_imul dX1_twoToThree_60 ?_
  refine ma_iload dX1_twoToThree_61 rfl ?_
  refine ma_iadd dX1_twoToThree_63 ?_
  refine ma_iload dX1_twoToThree_64 rfl ?_
  refine ma_iconst dX1_twoToThree_66 ?_
  refine ma_cV [_, _, _] dX1_twoToThree_67 wX1_put lX1_157 iX1_put sX1_put rfl (by first | exact vh_57 | exact vh_58 | exact (vh_n (by omega)).trans (by assumption)) (Nat.le_of_ble_eq_true rfl) ?_
  refine c_X1_put hm (by constructor <;> omega) ?_
  refine ma_aload_n dX1_twoToThree_70 rfl ?_
  refine ma_aload_n dX1_twoToThree_71 rfl ?_
  refine ma_getf dX1_twoToThree_72 fX1_92 (by first | exact vh_57 | exact vh_58 | exact (vh_n (by omega)).trans (by assumption)) (by rfl) ?_
  refine ma_iload_n dX1_twoToThree_75 rfl ?_
  refine ma_iald dX1_twoToThree_76 (by first | exact vh_57 | exact vh_58 | exact (vh_n (by omega)).trans (by assumption)) (by omega) (by omega) (by omega) ?_
  refine ma_iload dX1_twoToThree_77 rfl ?_
  refine ma_iload dX1_twoToThree_79 rfl ?_
  refine ma_iload dX1_twoToThree_81 rfl ?_
  refine ma_cV [_, _, _, _] dX1_twoToThree_83 wX1_putBeyond lX1_161 iX1_putBeyond sX1_putBeyond rfl (by first | exact vh_57 | exact vh_58 | exact (vh_n (by omega)).trans (by assumption)) (Nat.le_of_ble_eq_true rfl) ?_
  refine c_X1_putBeyond hm (by constructor <;> omega) (by omega) (by decide) (by decide) ?_
  refine ma_iincN dX1_twoToThree_86 rfl (by decide) rfl ?_
  refine ma_iincK (4) dX1_twoToThree_89 rfl (by decide) rfl (by decide) ?_
  refine ma_goto 43 dX1_twoToThree_92 rfl ?_
  show ma_J none mX1_twoToThree (d + 2) 0 0 43 [some (vr 54), some (vr b), some (vi k), some (vr c), some (vi (k / 4)), some (vi 1), some (vi (G k / 32)), some (vi (t - 2)), _, some (vi 4)] [] _ nx Q
  refine ma_iload dX1_twoToThree_43 rfl ?_
  refine ma_iconst dX1_twoToThree_45 ?_
  refine ma_rcmp_ge 95 dX1_twoToThree_46 rfl (by decide) (by decide) (fun c46 => ?_) (fun c46 => absurd c46 (by decide))
  refine ma_aload_n dX1_twoToThree_95 rfl ?_
  refine ma_aload_n dX1_twoToThree_96 rfl ?_
  refine ma_aload_n dX1_twoToThree_97 rfl ?_
  refine ma_cV [_, _] dX1_twoToThree_98 wX1_carry lX1_165 iX1_carry sX1_carry rfl (by first | exact vh_57 | exact vh_58 | exact (vh_n (by omega)).trans (by assumption)) (Nat.le_of_ble_eq_true rfl) ?_
  refine c_X1_carry ((vh_n (by omega)).trans hm) ((vh_n (by omega)).trans hb) ((vh_n (by omega)).trans hg) vh_57 vh_58 ((vh_n (by omega)).trans hc) ne.2.2 n2 n3 ne.1 ne.2.1 n6 hG (uf_r (uf_r (uf_r (uf_r (uf_r (uf_r (fun j j0 j1 => by rw [(hL j j0 j1).1]; exact lo_in _ (by omega) j j0 j1) (by constructor <;> omega)) (by constructor <;> omega)) (by constructor <;> omega)) (by constructor <;> omega)) (by constructor <;> omega)) (by constructor <;> omega)) (uf_r (uf_r (uf_r (uf_r (uf_r (uf_r (fun j j0 j1 => by have := (hL j j0 j1).2; omega) (by decide)) a0) (by decide)) a2) (by decide)) a3) ((vh_n (by omega)).trans he) ?_
  refine ma_aload_n dX1_twoToThree_101 rfl ?_
  refine ma_iload dX1_twoToThree_102 rfl ?_
  refine ma_iload dX1_twoToThree_104 rfl ?_
  refine ma_cS [_, _, _] dX1_twoToThree_106 wX1_joinFan lX1_169 tX1_joinFan (Nat.le_of_ble_eq_true rfl) ?_
  refine c_X1_joinFan1 ((ma_up_n (Ne.symm n6)).trans ((vh_n (by omega)).trans hc)) (ma_up_s _ _ _) (Ne.symm n6) (by constructor <;> omega) ?_
  rw [ma_up_up]
  exact ma_vret dX1_twoToThree_109 rfl (K H T hL)
set_option maxHeartbeats 2000000 in
theorem c_X1_two2 {h : ma_H} {b g c e nx d : Nat} {t u k : Int} {G C H T : Int → Int} {Q : Option ma_V → ma_H → Nat → Prop} (hm : h 54 = co 1 [vr 44, vr 39, vr 55, vr 57, vr 58]) (hb : h b = co 8 [vi t, vr g]) (hg : h g = ci 32 G) (hc : h c = co 8 [vi u, vr e]) (he : h e = ci 32 C) (nb : b ≠ 57 ∧ b ≠ 58) (ng : g ≠ 57 ∧ g ≠ 58) (nc : c ≠ 57 ∧ c ≠ 58) (ne : e ≠ 57 ∧ e ≠ 58 ∧ e ≠ 54) (n2 : e ≠ b) (n3 : e ≠ g) (n6 : e ≠ c) (hG : VG t G) (hk : 0 ≤ k ∧ k < 4 * t) (hf : k % 4 = 2) (hk2 : 0 ≤ G k ∧ G k / 32 ≠ k / 4) (h7 : t ≤ 7) (K : ∀ H T, (∀ j, 0 ≤ j → j < 4 * t → H j = lo (fun i => i = k / 4 ∨ i = G k / 32) j ∧ T j = 0) → Q none (ma_up (vh h (uf (uf (uf (uf (uf (uf H (4 * (k / 4) + 0) (t - 2)) (4 * (G k / 32) + im (G k % 32) 0) (t - 2)) (4 * (k / 4) + 1) (t - 2 + 1)) (4 * (G k / 32) + im (G k % 32) 1) (t - 2 + 1)) (4 * (k / 4) + 3) (t - 2 + 1 + 1)) (4 * (G k / 32) + im (G k % 32) 3) (t - 2 + 1 + 1)) (uf (uf (uf (uf (uf (uf T (4 * (k / 4) + 0) (0)) (4 * (G k / 32) + im (G k % 32) 0) (af (sx 2 0) (iv (G k % 32)))) (4 * (k / 4) + 1) (0)) (4 * (G k / 32) + im (G k % 32) 1) (af (sx 2 1) (iv (G k % 32)))) (4 * (k / 4) + 3) (0)) (4 * (G k / 32) + im (G k % 32) 3) (af (sx 2 3) (iv (G k % 32))))) e (ci 32 (fj (fj (fj (cy G (uf (uf (uf (uf (uf (uf H (4 * (k / 4) + 0) (t - 2)) (4 * (G k / 32) + im (G k % 32) 0) (t - 2)) (4 * (k / 4) + 1) (t - 2 + 1)) (4 * (G k / 32) + im (G k % 32) 1) (t - 2 + 1)) (4 * (k / 4) + 3) (t - 2 + 1 + 1)) (4 * (G k / 32) + im (G k % 32) 3) (t - 2 + 1 + 1)) (uf (uf (uf (uf (uf (uf T (4 * (k / 4) + 0) (0)) (4 * (G k / 32) + im (G k % 32) 0) (af (sx 2 0) (iv (G k % 32)))) (4 * (k / 4) + 1) (0)) (4 * (G k / 32) + im (G k % 32) 1) (af (sx 2 1) (iv (G k % 32)))) (4 * (k / 4) + 3) (0)) (4 * (G k / 32) + im (G k % 32) 3) (af (sx 2 3) (iv (G k % 32)))) C (4 * t).toNat) (t - 2 + 0) (t - 2 + 1) 0 1) (t - 2 + 0) (t - 2 + 2) 0 3) (t - 2 + 1) (t - 2 + 2) 1 3))) nx) : ma_Ct mX1_twoToThree (d + 2) 0 0 [vr 54, vr b, vi k, vr c] (vh h H T) nx Q := by
  have ht := hG.1
  have hg1 : 0 ≤ G k ∧ G k / 32 < t ∧ G k % 32 < 24 ∧ G k < 256 := by
    rcases hG.2.1 k hk.1 hk.2 with z | z
    · omega
    · exact ⟨z.1, z.2.1, z.2.2.1, by omega⟩
  have ip := iv_in (show 0 ≤ G k % 32 by omega) hg1.2.2.1
  have a0 := af_in (sx_ok (i := 2) (j := 0) (by decide) (by decide) (by decide) (by decide)).1 (sx_ok (i := 2) (j := 0) (by decide) (by decide) (by decide) (by decide)).2.1 ip.1 ip.2
  have a1 := af_in (sx_ok (i := 2) (j := 1) (by decide) (by decide) (by decide) (by decide)).1 (sx_ok (i := 2) (j := 1) (by decide) (by decide) (by decide) (by decide)).2.1 ip.1 ip.2
  have a3 := af_in (sx_ok (i := 2) (j := 3) (by decide) (by decide) (by decide) (by decide)).1 (sx_ok (i := 2) (j := 3) (by decide) (by decide) (by decide) (by decide)).2.1 ip.1 ip.2
  have b0 := im_in (show 0 ≤ G k % 32 by omega) hg1.2.2.1 (show (0 : Int) ≤ 0 by decide) (by decide)
  have b1 := im_in (show 0 ≤ G k % 32 by omega) hg1.2.2.1 (show (0 : Int) ≤ 1 by decide) (by decide)
  have b3 := im_in (show 0 ≤ G k % 32 by omega) hg1.2.2.1 (show (0 : Int) ≤ 3 by decide) (by decide)
  refine ma_Ct.of (by decide +kernel) (Nat.le_of_ble_eq_true rfl) ?_
  refine ma_iload_n dX1_twoToThree_0 rfl ?_
  refine ma_iconst dX1_twoToThree_1 ?_
  refine ma_kshr 4 dX1_twoToThree_2 (by decide) (by constructor <;> omega) ?_
  refine ma_istoreN dX1_twoToThree_3 (by decide) rfl ?_
  refine ma_iload_n dX1_twoToThree_5 rfl ?_
  refine ma_iconst dX1_twoToThree_6 ?_
  refine ma_kand 2 4 dX1_twoToThree_7 (by decide) (by decide +kernel) (by decide) ?_
  rw [hf]
  refine ma_istoreN dX1_twoToThree_8 (by decide) rfl ?_
  refine ma_aload_n dX1_twoToThree_10 rfl ?_
  refine ma_getf dX1_twoToThree_11 fX1_92 (by first | exact vh_57 | exact vh_58 | exact (vh_n (by omega)).trans (by assumption)) (by rfl) ?_
  refine ma_iload_n dX1_twoToThree_14 rfl ?_
  refine ma_iald dX1_twoToThree_15 (by first | exact vh_57 | exact vh_58 | exact (vh_n (by omega)).trans (by assumption)) (by omega) (by omega) (by omega) ?_
  refine ma_iconst dX1_twoToThree_16 ?_
  refine ma_kshr 32 dX1_twoToThree_17 (by decide) (by constructor <;> omega) ?_
  refine ma_istoreN dX1_twoToThree_18 (by decide) rfl ?_
  refine ma_aload_n dX1_twoToThree_20 rfl ?_
  refine ma_aload_n dX1_twoToThree_21 rfl ?_
  refine ma_iconst dX1_twoToThree_22 ?_
  refine ma_iload dX1_twoToThree_23 rfl ?_
  refine ma_ishl dX1_twoToThree_25 ?_
  refine ma_iconst dX1_twoToThree_26 ?_
  refine ma_iload dX1_twoToThree_27 rfl ?_
  refine ma_ishl dX1_twoToThree_29 ?_
  refine ma_ior dX1_twoToThree_30 ?_
  refine ma_cV [_, _] dX1_twoToThree_31 wX1_layOut lX1_154 iX1_layOut sX1_layOut rfl (by first | exact vh_57 | exact vh_58 | exact (vh_n (by omega)).trans (by assumption)) (Nat.le_of_ble_eq_true rfl) ?_
  refine c_X1_layOut (S := fun i => i = k / 4 ∨ i = G k / 32) hm hb nb (by omega) (mk_oo (mk_1 (by omega) (by omega)) (mk_1 (by omega) (by omega))) (fun H T hL => ?_)
  rw [sty_2 (by omega) (by omega) (by omega) (by omega) (by omega)]
  refine ma_istoreN dX1_twoToThree_34 (by decide) rfl ?_
  refine ma_iload dX1_twoToThree_36 rfl ?_
  refine ma_istoreN dX1_twoToThree_38 (by decide) rfl ?_
  refine ma_iconst dX1_twoToThree_40 ?_
  refine ma_istoreN dX1_twoToThree_41 (by decide) rfl ?_
  show ma_J none mX1_twoToThree (d + 2) 0 0 43 [some (vr 54), some (vr b), some (vi k), some (vr c), some (vi (k / 4)), some (vi 2), some (vi (G k / 32)), some (vi (t - 2)), _, some (vi 0)] [] _ nx Q
  refine ma_iload dX1_twoToThree_43 rfl ?_
  refine ma_iconst dX1_twoToThree_45 ?_
  refine ma_rcmp_ge 95 dX1_twoToThree_46 rfl (by decide) (by decide) (fun c46 => absurd c46 (by decide)) (fun c46 => ?_)
  refine ma_iload dX1_twoToThree_49 rfl ?_
  refine ma_iload dX1_twoToThree_51 rfl ?_
  refine ma_rcmp_eq 89 dX1_twoToThree_53 rfl (by decide) (by decide) (fun c53 => absurd c53 (by decide)) (fun c53 => ?_)
  refine ma_aload_n dX1_twoToThree_56 rfl ?_
  refine ma_iconst dX1_twoToThree_57 ?_
  refine ma_iload dX1_twoToThree_58 rfl ?_
  refine ma_imul dX1_twoToThree_60 ?_
  refine ma_iload dX1_twoToThree_61 rfl ?_
  refine ma_iadd dX1_twoToThree_63 ?_
  refine ma_iload dX1_twoToThree_64 rfl ?_
  refine ma_iconst dX1_twoToThree_66 ?_
  refine ma_cV [_, _, _] dX1_twoToThree_67 wX1_put lX1_157 iX1_put sX1_put rfl (by first | exact vh_57 | exact vh_58 | exact (vh_n (by omega)).trans (by assumption)) (Nat.le_of_ble_eq_true rfl) ?_
  refine c_X1_put hm (by constructor <;> omega) ?_
  refine ma_aload_n dX1_twoToThree_70 rfl ?_
  refine ma_aload_n dX1_twoToThree_71 rfl ?_
  refine ma_getf dX1_twoToThree_72 fX1_92 (by first | exact vh_57 | exact vh_58 | exact (vh_n (by omega)).trans (by assumption)) (by rfl) ?_
  refine ma_iload_n dX1_twoToThree_75 rfl ?_
  refine ma_iald dX1_twoToThree_76 (by first | exact vh_57 | exact vh_58 | exact (vh_n (by omega)).trans (by assumption)) (by omega) (by omega) (by omega) ?_
  refine ma_iload dX1_twoToThree_77 rfl ?_
  refine ma_iload dX1_twoToThree_79 rfl ?_
  refine ma_iload dX1_twoToThree_81 rfl ?_
  refine ma_cV [_, _, _, _] dX1_twoToThree_83 wX1_putBeyond lX1_161 iX1_putBeyond sX1_putBeyond rfl (by first | exact vh_57 | exact vh_58 | exact (vh_n (by omega)).trans (by assumption)) (Nat.le_of_ble_eq_true rfl) ?_
  refine c_X1_putBeyond hm (by constructor <;> omega) (by omega) (by decide) (by decide) ?_
  refine ma_iincN dX1_twoToThree_86 rfl (by decide) rfl ?_
  refine ma_iincK (1) dX1_twoToThree_89 rfl (by decide) rfl (by decide) ?_
  refine ma_goto 43 dX1_twoToThree_92 rfl ?_
  show ma_J none mX1_twoToThree (d + 2) 0 0 43 [some (vr 54), some (vr b), some (vi k), some (vr c), some (vi (k / 4)), some (vi 2), some (vi (G k / 32)), some (vi (t - 2)), _, some (vi 1)] [] _ nx Q
  refine ma_iload dX1_twoToThree_43 rfl ?_
  refine ma_iconst dX1_twoToThree_45 ?_
  refine ma_rcmp_ge 95 dX1_twoToThree_46 rfl (by decide) (by decide) (fun c46 => absurd c46 (by decide)) (fun c46 => ?_)
  refine ma_iload dX1_twoToThree_49 rfl ?_
  refine ma_iload dX1_twoToThree_51 rfl ?_
  refine ma_rcmp_eq 89 dX1_twoToThree_53 rfl (by decide) (by decide) (fun c53 => absurd c53 (by decide)) (fun c53 => ?_)
  refine ma_aload_n dX1_twoToThree_56 rfl ?_
  refine ma_iconst dX1_twoToThree_57 ?_
  refine ma_iload dX1_twoToThree_58 rfl ?_
  refine ma_imul dX1_twoToThree_60 ?_
  refine ma_iload dX1_twoToThree_61 rfl ?_
  refine ma_iadd dX1_twoToThree_63 ?_
  refine ma_iload dX1_twoToThree_64 rfl ?_
  refine ma_iconst dX1_twoToThree_66 ?_
  refine ma_cV [_, _, _] dX1_twoToThree_67 wX1_put lX1_157 iX1_put sX1_put rfl (by first | exact vh_57 | exact vh_58 | exact (vh_n (by omega)).trans (by assumption)) (Nat.le_of_ble_eq_true rfl) ?_
  refine c_X1_put hm (by constructor <;> omega) ?_
  refine ma_aload_n dX1_twoToThree_70 rfl ?_
  refine ma_aload_n dX1_twoToThree_71 rfl ?_
  refine ma_getf dX1_twoToThree_72 fX1_92 (by first | exact vh_57 | exact vh_58 | exact (vh_n (by omega)).trans (by assumption)) (by rfl) ?_
  refine ma_iload_n dX1_twoToThree_75 rfl ?_
  refine ma_iald dX1_twoToThree_76 (by first | exact vh_57 | exact vh_58 | exact (vh_n (by omega)).trans (by assumption)) (by omega) (by omega) (by omega) ?_
  refine ma_iload dX1_twoToThree_77 rfl ?_
  refine ma_iload dX1_twoToThree_79 rfl ?_
  refine ma_iload dX1_twoToThree_81 rfl ?_
  refine ma_cV [_, _, _, _] dX1_twoToThree_83 wX1_putBeyond lX1_161 iX1_putBeyond sX1_putBeyond rfl (by first | exact vh_57 | exact vh_58 | exact (vh_n (by omega)).trans (by assumption)) (Nat.le_of_ble_eq_true rfl) ?_
  refine c_X1_putBeyond hm (by constructor <;> omega) (by omega) (by decide) (by decide) ?_
  refine ma_iincN dX1_twoToThree_86 rfl (by decide) rfl ?_
  refine ma_iincK (2) dX1_twoToThree_89 rfl (by decide) rfl (by decide) ?_
  refine ma_goto 43 dX1_twoToThree_92 rfl ?_
  show ma_J none mX1_twoToThree (d + 2) 0 0 43 [some (vr 54), some (vr b), some (vi k), some (vr c), some (vi (k / 4)), some (vi 2), some (vi (G k / 32)), some (vi (t - 2)), _, some (vi 2)] [] _ nx Q
  refine ma_iload dX1_twoToThree_43 rfl ?_
  refine ma_iconst dX1_twoToThree_45 ?_
  refine ma_rcmp_ge 95 dX1_twoToThree_46 rfl (by decide) (by decide) (fun c46 => absurd c46 (by decide)) (fun c46 => ?_)
  refine ma_iload dX1_twoToThree_49 rfl ?_
  refine ma_iload dX1_twoToThree_51 rfl ?_
  refine ma_rcmp_eq 89 dX1_twoToThree_53 rfl (by decide) (by decide) (fun c53 => ?_) (fun c53 => absurd c53 (by decide))
  refine ma_iincK (3) dX1_twoToThree_89 rfl (by decide) rfl (by decide) ?_
  refine ma_goto 43 dX1_twoToThree_92 rfl ?_
  show ma_J none mX1_twoToThree (d + 2) 0 0 43 [some (vr 54), some (vr b), some (vi k), some (vr c), some (vi (k / 4)), some (vi 2), some (vi (G k / 32)), some (vi (t - 2)), _, some (vi 3)] [] _ nx Q
  refine ma_iload dX1_twoToThree_43 rfl ?_
  refine ma_iconst dX1_twoToThree_45 ?_
  refine ma_rcmp_ge 95 dX1_twoToThree_46 rfl (by decide) (by decide) (fun c46 => absurd c46 (by decide)) (fun c46 => ?_)
  refine ma_iload dX1_twoToThree_49 rfl ?_
  refine ma_iload dX1_twoToThree_51 rfl ?_
  refine ma_rcmp_eq 89 dX1_twoToThree_53 rfl (by decide) (by decide) (fun c53 => absurd c53 (by decide)) (fun c53 => ?_)
  refine ma_aload_n dX1_twoToThree_56 rfl ?_
  refine ma_iconst dX1_twoToThree_57 ?_
  refine ma_iload dX1_twoToThree_58 rfl ?_
  refine ma_imul dX1_twoToThree_60 ?_
  refine ma_iload dX1_twoToThree_61 rfl ?_
  refine ma_iadd dX1_twoToThree_63 ?_
  refine ma_iload dX1_twoToThree_64 rfl ?_
  refine ma_iconst dX1_twoToThree_66 ?_
  refine ma_cV [_, _, _] dX1_twoToThree_67 wX1_put lX1_157 iX1_put sX1_put rfl (by first | exact vh_57 | exact vh_58 | exact (vh_n (by omega)).trans (by assumption)) (Nat.le_of_ble_eq_true rfl) ?_
  refine c_X1_put hm (by constructor <;> omega) ?_
  refine ma_aload_n dX1_twoToThree_70 rfl ?_
  refine ma_aload_n dX1_twoToThree_71 rfl ?_
  refine ma_getf dX1_twoToThree_72 fX1_92 (by first | exact vh_57 | exact vh_58 | exact (vh_n (by omega)).trans (by assumption)) (by rfl) ?_
  refine ma_iload_n dX1_twoToThree_75 rfl ?_
  refine ma_iald dX1_twoToThree_76 (by first | exact vh_57 | exact vh_58 | exact (vh_n (by omega)).trans (by assumption)) (by omega) (by omega) (by omega) ?_
  refine ma_iload dX1_twoToThree_77 rfl ?_
  refine ma_iload dX1_twoToThree_79 rfl ?_
  refine ma_iload dX1_twoToThree_81 rfl ?_
  refine ma_cV [_, _, _, _] dX1_twoToThree_83 wX1_putBeyond lX1_161 iX1_putBeyond sX1_putBeyond rfl (by first | exact vh_57 | exact vh_58 | exact (vh_n (by omega)).trans (by assumption)) (Nat.le_of_ble_eq_true rfl) ?_
  refine c_X1_putBeyond hm (by constructor <;> omega) (by omega) (by decide) (by decide) ?_
  refine ma_iincN dX1_twoToThree_86 rfl (by decide) rfl ?_
  refine ma_iincK (4) dX1_twoToThree_89 rfl (by decide) rfl (by decide) ?_
  refine ma_goto 43 dX1_twoToThree_92 rfl ?_
  show ma_J none mX1_twoToThree (d + 2) 0 0 43 [some (vr 54), some (vr b), some (vi k), some (vr c), some (vi (k / 4)), some (vi 2), some (vi (G k / 32)), some (vi (t - 2)), _, some (vi 4)] [] _ nx Q
  refine ma_iload dX1_twoToThree_43 rfl ?_
  refine ma_iconst dX1_twoToThree_45 ?_
  refine ma_rcmp_ge 95 dX1_twoToThree_46 rfl (by decide) (by decide) (fun c46 => ?_) (fun c46 => absurd c46 (by decide))
  refine ma_aload_n dX1_twoToThree_95 rfl ?_
  refine ma_aload_n dX1_twoToThree_96 rfl ?_
  refine ma_aload_n dX1_twoToThree_97 rfl ?_
  refine ma_cV [_, _] dX1_twoToThree_98 wX1_carry lX1_165 iX1_carry sX1_carry rfl (by first | exact vh_57 | exact vh_58 | exact (vh_n (by omega)).trans (by assumption)) (Nat.le_of_ble_eq_true rfl) ?_
  refine c_X1_carry ((vh_n (by omega)).trans hm) ((vh_n (by omega)).trans hb) ((vh_n (by omega)).trans hg) vh_57 vh_58 ((vh_n (by omega)).trans hc) ne.2.2 n2 n3 ne.1 ne.2.1 n6 hG (uf_r (uf_r (uf_r (uf_r (uf_r (uf_r (fun j j0 j1 => by rw [(hL j j0 j1).1]; exact lo_in _ (by omega) j j0 j1) (by constructor <;> omega)) (by constructor <;> omega)) (by constructor <;> omega)) (by constructor <;> omega)) (by constructor <;> omega)) (by constructor <;> omega)) (uf_r (uf_r (uf_r (uf_r (uf_r (uf_r (fun j j0 j1 => by have := (hL j j0 j1).2; omega) (by decide)) a0) (by decide)) a1) (by decide)) a3) ((vh_n (by omega)).trans he) ?_
  refine ma_aload_n dX1_twoToThree_101 rfl ?_
  refine ma_iload dX1_twoToThree_102 rfl ?_
  refine ma_iload dX1_twoToThree_104 rfl ?_
  refine ma_cS [_, _, _] dX1_twoToThree_106 wX1_joinFan lX1_169 tX1_joinFan (Nat.le_of_ble_eq_true rfl) ?_
  refine c_X1_joinFan2 ((ma_up_n (Ne.symm n6)).trans ((vh_n (by omega)).trans hc)) (ma_up_s _ _ _) (Ne.symm n6) (by constructor <;> omega) ?_
  rw [ma_up_up]
  exact ma_vret dX1_twoToThree_109 rfl (K H T hL)
set_option maxHeartbeats 2000000 in
theorem c_X1_two3 {h : ma_H} {b g c e nx d : Nat} {t u k : Int} {G C H T : Int → Int} {Q : Option ma_V → ma_H → Nat → Prop} (hm : h 54 = co 1 [vr 44, vr 39, vr 55, vr 57, vr 58]) (hb : h b = co 8 [vi t, vr g]) (hg : h g = ci 32 G) (hc : h c = co 8 [vi u, vr e]) (he : h e = ci 32 C) (nb : b ≠ 57 ∧ b ≠ 58) (ng : g ≠ 57 ∧ g ≠ 58) (nc : c ≠ 57 ∧ c ≠ 58) (ne : e ≠ 57 ∧ e ≠ 58 ∧ e ≠ 54) (n2 : e ≠ b) (n3 : e ≠ g) (n6 : e ≠ c) (hG : VG t G) (hk : 0 ≤ k ∧ k < 4 * t) (hf : k % 4 = 3) (hk2 : 0 ≤ G k ∧ G k / 32 ≠ k / 4) (h7 : t ≤ 7) (K : ∀ H T, (∀ j, 0 ≤ j → j < 4 * t → H j = lo (fun i => i = k / 4 ∨ i = G k / 32) j ∧ T j = 0) → Q none (ma_up (vh h (uf (uf (uf (uf (uf (uf H (4 * (k / 4) + 0) (t - 2)) (4 * (G k / 32) + im (G k % 32) 0) (t - 2)) (4 * (k / 4) + 1) (t - 2 + 1)) (4 * (G k / 32) + im (G k % 32) 1) (t - 2 + 1)) (4 * (k / 4) + 2) (t - 2 + 1 + 1)) (4 * (G k / 32) + im (G k % 32) 2) (t - 2 + 1 + 1)) (uf (uf (uf (uf (uf (uf T (4 * (k / 4) + 0) (0)) (4 * (G k / 32) + im (G k % 32) 0) (af (sx 3 0) (iv (G k % 32)))) (4 * (k / 4) + 1) (0)) (4 * (G k / 32) + im (G k % 32) 1) (af (sx 3 1) (iv (G k % 32)))) (4 * (k / 4) + 2) (0)) (4 * (G k / 32) + im (G k % 32) 2) (af (sx 3 2) (iv (G k % 32))))) e (ci 32 (fj (fj (fj (cy G (uf (uf (uf (uf (uf (uf H (4 * (k / 4) + 0) (t - 2)) (4 * (G k / 32) + im (G k % 32) 0) (t - 2)) (4 * (k / 4) + 1) (t - 2 + 1)) (4 * (G k / 32) + im (G k % 32) 1) (t - 2 + 1)) (4 * (k / 4) + 2) (t - 2 + 1 + 1)) (4 * (G k / 32) + im (G k % 32) 2) (t - 2 + 1 + 1)) (uf (uf (uf (uf (uf (uf T (4 * (k / 4) + 0) (0)) (4 * (G k / 32) + im (G k % 32) 0) (af (sx 3 0) (iv (G k % 32)))) (4 * (k / 4) + 1) (0)) (4 * (G k / 32) + im (G k % 32) 1) (af (sx 3 1) (iv (G k % 32)))) (4 * (k / 4) + 2) (0)) (4 * (G k / 32) + im (G k % 32) 2) (af (sx 3 2) (iv (G k % 32)))) C (4 * t).toNat) (t - 2 + 0) (t - 2 + 1) 0 1) (t - 2 + 0) (t - 2 + 2) 0 2) (t - 2 + 1) (t - 2 + 2) 1 2))) nx) : ma_Ct mX1_twoToThree (d + 2) 0 0 [vr 54, vr b, vi k, vr c] (vh h H T) nx Q := by
  have ht := hG.1
  have hg1 : 0 ≤ G k ∧ G k / 32 < t ∧ G k % 32 < 24 ∧ G k < 256 := by
    rcases hG.2.1 k hk.1 hk.2 with z | z
    · omega
    · exact ⟨z.1, z.2.1, z.2.2.1, by omega⟩
  have ip := iv_in (show 0 ≤ G k % 32 by omega) hg1.2.2.1
  have a0 := af_in (sx_ok (i := 3) (j := 0) (by decide) (by decide) (by decide) (by decide)).1 (sx_ok (i := 3) (j := 0) (by decide) (by decide) (by decide) (by decide)).2.1 ip.1 ip.2
  have a1 := af_in (sx_ok (i := 3) (j := 1) (by decide) (by decide) (by decide) (by decide)).1 (sx_ok (i := 3) (j := 1) (by decide) (by decide) (by decide) (by decide)).2.1 ip.1 ip.2
  have a2 := af_in (sx_ok (i := 3) (j := 2) (by decide) (by decide) (by decide) (by decide)).1 (sx_ok (i := 3) (j := 2) (by decide) (by decide) (by decide) (by decide)).2.1 ip.1 ip.2
  have b0 := im_in (show 0 ≤ G k % 32 by omega) hg1.2.2.1 (show (0 : Int) ≤ 0 by decide) (by decide)
  have b1 := im_in (show 0 ≤ G k % 32 by omega) hg1.2.2.1 (show (0 : Int) ≤ 1 by decide) (by decide)
  have b2 := im_in (show 0 ≤ G k % 32 by omega) hg1.2.2.1 (show (0 : Int) ≤ 2 by decide) (by decide)
  refine ma_Ct.of (by decide +kernel) (Nat.le_of_ble_eq_true rfl) ?_
  refine ma_iload_n dX1_twoToThree_0 rfl ?_
  refine ma_iconst dX1_twoToThree_1 ?_
  refine ma_kshr 4 dX1_twoToThree_2 (by decide) (by constructor <;> omega) ?_
  refine ma_istoreN dX1_twoToThree_3 (by decide) rfl ?_
  refine ma_iload_n dX1_twoToThree_5 rfl ?_
  refine ma_iconst dX1_twoToThree_6 ?_
  refine ma_kand 2 4 dX1_twoToThree_7 (by decide) (by decide +kernel) (by decide) ?_
  rw [hf]
  refine ma_istoreN dX1_twoToThree_8 (by decide) rfl ?_
  refine ma_aload_n dX1_twoToThree_10 rfl ?_
  refine ma_getf dX1_twoToThree_11 fX1_92 (by first | exact vh_57 | exact vh_58 | exact (vh_n (by omega)).trans (by assumption)) (by rfl) ?_
  refine ma_iload_n dX1_twoToThree_14 rfl ?_
  refine ma_iald dX1_twoToThree_15 (by first | exact vh_57 | exact vh_58 | exact (vh_n (by omega)).trans (by assumption)) (by omega) (by omega) (by omega) ?_
  refine ma_iconst dX1_twoToThree_16 ?_
  refine ma_kshr 32 dX1_twoToThree_17 (by decide) (by constructor <;> omega) ?_
  refine ma_istoreN dX1_twoToThree_18 (by decide) rfl ?_
  refine ma_aload_n dX1_twoToThree_20 rfl ?_
  refine ma_aload_n dX1_twoToThree_21 rfl ?_
  refine ma_iconst dX1_twoToThree_22 ?_
  refine ma_iload dX1_twoToThree_23 rfl ?_
  refine ma_ishl dX1_twoToThree_25 ?_
  refine ma_iconst dX1_twoToThree_26 ?_
  refine ma_iload dX1_twoToThree_27 rfl ?_
  refine ma_ishl dX1_twoToThree_29 ?_
  refine ma_ior dX1_twoToThree_30 ?_
  refine ma_cV [_, _] dX1_twoToThree_31 wX1_layOut lX1_154 iX1_layOut sX1_layOut rfl (by first | exact vh_57 | exact vh_58 | exact (vh_n (by omega)).trans (by assumption)) (Nat.le_of_ble_eq_true rfl) ?_
  refine c_X1_layOut (S := fun i => i = k / 4 ∨ i = G k / 32) hm hb nb (by omega) (mk_oo (mk_1 (by omega) (by omega)) (mk_1 (by omega) (by omega))) (fun H T hL => ?_)
  rw [sty_2 (by omega) (by omega) (by omega) (by omega) (by omega)]
  refine ma_istoreN dX1_twoToThree_34 (by decide) rfl ?_
  refine ma_iload dX1_twoToThree_36 rfl ?_
  refine ma_istoreN dX1_twoToThree_38 (by decide) rfl ?_
  refine ma_iconst dX1_twoToThree_40 ?_
  refine ma_istoreN dX1_twoToThree_41 (by decide) rfl ?_
  show ma_J none mX1_twoToThree (d + 2) 0 0 43 [some (vr 54), some (vr b), some (vi k), some (vr c), some (vi (k / 4)), some (vi 3), some (vi (G k / 32)), some (vi (t - 2)), _, some (vi 0)] [] _ nx Q
  refine ma_iload dX1_twoToThree_43 rfl ?_
  refine ma_iconst dX1_twoToThree_45 ?_
  refine ma_rcmp_ge 95 dX1_twoToThree_46 rfl (by decide) (by decide) (fun c46 => absurd c46 (by decide)) (fun c46 => ?_)
  refine ma_iload dX1_twoToThree_49 rfl ?_
  refine ma_iload dX1_twoToThree_51 rfl ?_
  refine ma_rcmp_eq 89 dX1_twoToThree_53 rfl (by decide) (by decide) (fun c53 => absurd c53 (by decide)) (fun c53 => ?_)
  refine ma_aload_n dX1_twoToThree_56 rfl ?_
  refine ma_iconst dX1_twoToThree_57 ?_
  refine ma_iload dX1_twoToThree_58 rfl ?_
  refine ma_imul dX1_twoToThree_60 ?_
  refine ma_iload dX1_twoToThree_61 rfl ?_
  refine ma_iadd dX1_twoToThree_63 ?_
  refine ma_iload dX1_twoToThree_64 rfl ?_
  refine ma_iconst dX1_twoToThree_66 ?_
  refine ma_cV [_, _, _] dX1_twoToThree_67 wX1_put lX1_157 iX1_put sX1_put rfl (by first | exact vh_57 | exact vh_58 | exact (vh_n (by omega)).trans (by assumption)) (Nat.le_of_ble_eq_true rfl) ?_
  refine c_X1_put hm (by constructor <;> omega) ?_
  refine ma_aload_n dX1_twoToThree_70 rfl ?_
  refine ma_aload_n dX1_twoToThree_71 rfl ?_
  refine ma_getf dX1_twoToThree_72 fX1_92 (by first | exact vh_57 | exact vh_58 | exact (vh_n (by omega)).trans (by assumption)) (by rfl) ?_
  refine ma_iload_n dX1_twoToThree_75 rfl ?_
  refine ma_iald dX1_twoToThree_76 (by first | exact vh_57 | exact vh_58 | exact (vh_n (by omega)).trans (by assumption)) (by omega) (by omega) (by omega) ?_
  refine ma_iload dX1_twoToThree_77 rfl ?_
  refine ma_iload dX1_twoToThree_79 rfl ?_
  refine ma_iload dX1_twoToThree_81 rfl ?_
  refine ma_cV [_, _, _, _] dX1_twoToThree_83 wX1_putBeyond lX1_161 iX1_putBeyond sX1_putBeyond rfl (by first | exact vh_57 | exact vh_58 | exact (vh_n (by omega)).trans (by assumption)) (Nat.le_of_ble_eq_true rfl) ?_
  refine c_X1_putBeyond hm (by constructor <;> omega) (by omega) (by decide) (by decide) ?_
  refine ma_iincN dX1_twoToThree_86 rfl (by decide) rfl ?_
  refine ma_iincK (1) dX1_twoToThree_89 rfl (by decide) rfl (by decide) ?_
  refine ma_goto 43 dX1_twoToThree_92 rfl ?_
  show ma_J none mX1_twoToThree (d + 2) 0 0 43 [some (vr 54), some (vr b), some (vi k), some (vr c), some (vi (k / 4)), some (vi 3), some (vi (G k / 32)), some (vi (t - 2)), _, some (vi 1)] [] _ nx Q
  refine ma_iload dX1_twoToThree_43 rfl ?_
  refine ma_iconst dX1_twoToThree_45 ?_
  refine ma_rcmp_ge 95 dX1_twoToThree_46 rfl (by decide) (by decide) (fun c46 => absurd c46 (by decide)) (fun c46 => ?_)
  refine ma_iload dX1_twoToThree_49 rfl ?_
  refine ma_iload dX1_twoToThree_51 rfl ?_
  refine ma_rcmp_eq 89 dX1_twoToThree_53 rfl (by decide) (by decide) (fun c53 => absurd c53 (by decide)) (fun c53 => ?_)
  refine ma_aload_n dX1_twoToThree_56 rfl ?_
  refine ma_iconst dX1_twoToThree_57 ?_
  refine ma_iload dX1_twoToThree_58 rfl ?_
  refine ma_imul dX1_twoToThree_60 ?_
  refine ma_iload dX1_twoToThree_61 rfl ?_
  refine ma_iadd dX1_twoToThree_63 ?_
  refine ma_iload dX1_twoToThree_64 rfl ?_
  refine ma_iconst dX1_twoToThree_66 ?_
  refine ma_cV [_, _, _] dX1_twoToThree_67 wX1_put lX1_157 iX1_put sX1_put rfl (by first | exact vh_57 | exact vh_58 | exact (vh_n (by omega)).trans (by assumption)) (Nat.le_of_ble_eq_true rfl) ?_
  refine c_X1_put hm (by constructor <;> omega) ?_
  refine ma_aload_n dX1_twoToThree_70 rfl ?_
  refine ma_aload_n dX1_twoToThree_71 rfl ?_
  refine ma_getf dX1_twoToThree_72 fX1_92 (by first | exact vh_57 | exact vh_58 | exact (vh_n (by omega)).trans (by assumption)) (by rfl) ?_
  refine ma_iload_n dX1_twoToThree_75 rfl ?_
  refine ma_iald dX1_twoToThree_76 (by first | exact vh_57 | exact vh_58 | exact (vh_n (by omega)).trans (by assumption)) (by omega) (by omega) (by omega) ?_
  refine ma_iload dX1_twoToThree_77 rfl ?_
  refine ma_iload dX1_twoToThree_79 rfl ?_
  refine ma_iload dX1_twoToThree_81 rfl ?_
  refine ma_cV [_, _, _, _] dX1_twoToThree_83 wX1_putBeyond lX1_161 iX1_putBeyond sX1_putBeyond rfl (by first | exact vh_57 | exact vh_58 | exact (vh_n (by omega)).trans (by assumption)) (Nat.le_of_ble_eq_true rfl) ?_
  refine c_X1_putBeyond hm (by constructor <;> omega) (by omega) (by decide) (by decide) ?_
  refine ma_iincN dX1_twoToThree_86 rfl (by decide) rfl ?_
  refine ma_iincK (2) dX1_twoToThree_89 rfl (by decide) rfl (by decide) ?_
  refine ma_goto 43 dX1_twoToThree_92 rfl ?_
  show ma_J none mX1_twoToThree (d + 2) 0 0 43 [some (vr 54), some (vr b), some (vi k), some (vr c), some (vi (k / 4)), some (vi 3), some (vi (G k / 32)), some (vi (t - 2)), _, some (vi 2)] [] _ nx Q
  refine ma_iload dX1_twoToThree_43 rfl ?_
  refine ma_iconst dX1_twoToThree_45 ?_
  refine ma_rcmp_ge 95 dX1_twoToThree_46 rfl (by decide) (by decide) (fun c46 => absurd c46 (by decide)) (fun c46 => ?_)
  refine ma_iload dX1_twoToThree_49 rfl ?_
  refine ma_iload dX1_twoToThree_51 rfl ?_
  refine ma_rcmp_eq 89 dX1_twoToThree_53 rfl (by decide) (by decide) (fun c53 => absurd c53 (by decide)) (fun c53 => ?_)
  refine ma_aload_n dX1_twoToThree_56 rfl ?_
  refine ma_iconst dX1_twoToThree_57 ?_
  refine ma_iload dX1_twoToThree_58 rfl ?_
  refine ma_imul dX1_twoToThree_60 ?_
  refine ma_iload dX1_twoToThree_61 rfl ?_
  refine ma_iadd dX1_twoToThree_63 ?_
  refine ma_iload dX1_twoToThree_64 rfl ?_
  refine ma_iconst dX1_twoToThree_66 ?_
  refine ma_cV [_, _, _] dX1_twoToThree_67 wX1_put lX1_157 iX1_put sX1_put rfl (by first | exact vh_57 | exact vh_58 | exact (vh_n (by omega)).trans (by assumption)) (Nat.le_of_ble_eq_true rfl) ?_
  refine c_X1_put hm (by constructor <;> omega) ?_
  refine ma_aload_n dX1_twoToThree_70 rfl ?_
  refine ma_aload_n dX1_twoToThree_71 rfl ?_
  refine ma_getf dX1_twoToThree_72 fX1_92 (by first | exact vh_57 | exact vh_58 | exact (vh_n (by omega)).trans (by assumption)) (by rfl) ?_
  refine ma_iload_n dX1_twoToThree_75 rfl ?_
  refine ma_iald dX1_twoToThree_76 (by first | exact vh_57 | exact vh_58 | exact (vh_n (by omega)).trans (by assumption)) (by omega) (by omega) (by omega) ?_
  refine ma_iload dX1_twoToThree_77 rfl ?_
  refine ma_iload dX1_twoToThree_79 rfl ?_
  refine ma_iload dX1_twoToThree_81 rfl ?_
  refine ma_cV [_, _, _, _] dX1_twoToThree_83 wX1_putBeyond lX1_161 iX1_putBeyond sX1_putBeyond rfl (by first | exact vh_57 | exact vh_58 | exact (vh_n (by omega)).trans (by assumption)) (Nat.le_of_ble_eq_true rfl) ?_
  refine c_X1_putBeyond hm (by constructor <;> omega) (by omega) (by decide) (by decide) ?_
  refine ma_iincN dX1_twoToThree_86 rfl (by decide) rfl ?_
  refine ma_iincK (3) dX1_twoToThree_89 rfl (by decide) rfl (by decide) ?_
  refine ma_goto 43 dX1_twoToThree_92 rfl ?_
  show ma_J none mX1_twoToThree (d + 2) 0 0 43 [some (vr 54), some (vr b), some (vi k), some (vr c), some (vi (k / 4)), some (vi 3), some (vi (G k / 32)), some (vi (t - 2)), _, some (vi 3)] [] _ nx Q
  refine ma_iload dX1_twoToThree_43 rfl ?_
  refine ma_iconst dX1_twoToThree_45 ?_
  refine ma_rcmp_ge 95 dX1_twoToThree_46 rfl (by decide) (by decide) (fun c46 => absurd c46 (by decide)) (fun c46 => ?_)
  refine ma_iload dX1_twoToThree_49 rfl ?_
  refine ma_iload dX1_twoToThree_51 rfl ?_
  refine ma_rcmp_eq 89 dX1_twoToThree_53 rfl (by decide) (by decide) (fun c53 => ?_) (fun c53 => absurd c53 (by decide))
  refine ma_iincK (4) dX1_twoToThree_89 rfl (by decide) rfl (by decide) ?_
  refine ma_goto 43 dX1_twoToThree_92 rfl ?_
  show ma_J none mX1_twoToThree (d + 2) 0 0 43 [some (vr 54), some (vr b), some (vi k), some (vr c), some (vi (k / 4)), some (vi 3), some (vi (G k / 32)), some (vi (t - 2)), _, some (vi 4)] [] _ nx Q
  refine ma_iload dX1_twoToThree_43 rfl ?_
  refine ma_iconst dX1_twoToThree_45 ?_
  refine ma_rcmp_ge 95 dX1_twoToThree_46 rfl (by decide) (by decide) (fun c46 => ?_) (fun c46 => absurd c46 (by decide))
  refine ma_aload_n dX1_twoToThree_95 rfl ?_
  refine ma_aload_n dX1_twoToThree_96 rfl ?_
  refine ma_aload_n dX1_twoToThree_97 rfl ?_
  refine ma_cV [_, _] dX1_twoToThree_98 wX1_carry lX1_165 iX1_carry sX1_carry rfl (by first | exact vh_57 | exact vh_58 | exact (vh_n (by omega)).trans (by assumption)) (Nat.le_of_ble_eq_true rfl) ?_
  refine c_X1_carry ((vh_n (by omega)).trans hm) ((vh_n (by omega)).trans hb) ((vh_n (by omega)).trans hg) vh_57 vh_58 ((vh_n (by omega)).trans hc) ne.2.2 n2 n3 ne.1 ne.2.1 n6 hG (uf_r (uf_r (uf_r (uf_r (uf_r (uf_r (fun j j0 j1 => by rw [(hL j j0 j1).1]; exact lo_in _ (by omega) j j0 j1) (by constructor <;> omega)) (by constructor <;> omega)) (by constructor <;> omega)) (by constructor <;> omega)) (by constructor <;> omega)) (by constructor <;> omega)) (uf_r (uf_r (uf_r (uf_r (uf_r (uf_r (fun j j0 j1 => by have := (hL j j0 j1).2; omega) (by decide)) a0) (by decide)) a1) (by decide)) a2) ((vh_n (by omega)).trans he) ?_
  refine ma_aload_n dX1_twoToThree_101 rfl ?_
  refine ma_iload dX1_twoToThree_102 rfl ?_
  refine ma_iload dX1_twoToThree_104 rfl ?_
  refine ma_cS [_, _, _] dX1_twoToThree_106 wX1_joinFan lX1_169 tX1_joinFan (Nat.le_of_ble_eq_true rfl) ?_
  refine c_X1_joinFan3 ((ma_up_n (Ne.symm n6)).trans ((vh_n (by omega)).trans hc)) (ma_up_s _ _ _) (Ne.symm n6) (by constructor <;> omega) ?_
  rw [ma_up_up]
  exact ma_vret dX1_twoToThree_109 rfl (K H T hL)
set_option maxHeartbeats 2000000 in
theorem c_X1_one {h : ma_H} {b g c e nx d : Nat} {t u k : Int} {G C H T : Int → Int} {Q : Option ma_V → ma_H → Nat → Prop} (hm : h 54 = co 1 [vr 44, vr 39, vr 55, vr 57, vr 58]) (hb : h b = co 8 [vi t, vr g]) (hg : h g = ci 32 G) (hc : h c = co 8 [vi u, vr e]) (he : h e = ci 32 C) (nb : b ≠ 57 ∧ b ≠ 58) (ng : g ≠ 57 ∧ g ≠ 58) (nc : c ≠ 57 ∧ c ≠ 58) (ne : e ≠ 57 ∧ e ≠ 58 ∧ e ≠ 54) (n2 : e ≠ b) (n3 : e ≠ g) (n6 : e ≠ c) (hG : VG t G) (hk : 0 ≤ k ∧ k < t) (h5 : t ≤ 5) (K : ∀ H T, (∀ j, 0 ≤ j → j < 4 * t → H j = lo (fun i => i = k) j ∧ T j = 0) → Q none (ma_up (vh h (uf (uf (uf (uf H (4 * k + 0) (t - 1 + 0)) (4 * k + 1) (t - 1 + 1)) (4 * k + 2) (t - 1 + 2)) (4 * k + 3) (t - 1 + 3)) (uf (uf (uf (uf T (4 * k + 0) (0)) (4 * k + 1) (0)) (4 * k + 2) (0)) (4 * k + 3) (0))) e (ci 32 (fj (fj (fj (fj (fj (fj (cy G (uf (uf (uf (uf H (4 * k + 0) (t - 1 + 0)) (4 * k + 1) (t - 1 + 1)) (4 * k + 2) (t - 1 + 2)) (4 * k + 3) (t - 1 + 3)) (uf (uf (uf (uf T (4 * k + 0) (0)) (4 * k + 1) (0)) (4 * k + 2) (0)) (4 * k + 3) (0)) C (4 * t).toNat) (t - 1 + 0) (t - 1 + 1) 0 1) (t - 1 + 0) (t - 1 + 2) 0 2) (t - 1 + 0) (t - 1 + 3) 0 3) (t - 1 + 1) (t - 1 + 2) 1 2) (t - 1 + 1) (t - 1 + 3) 1 3) (t - 1 + 2) (t - 1 + 3) 2 3))) nx) : ma_Ct mX1_oneToFour (d + 2) 0 0 [vr 54, vr b, vi k, vr c] (vh h H T) nx Q := by
  have ht := hG.1
  refine ma_Ct.of (by decide +kernel) (Nat.le_of_ble_eq_true rfl) ?_
  refine ma_aload_n dX1_oneToFour_0 rfl ?_
  refine ma_aload_n dX1_oneToFour_1 rfl ?_
  refine ma_iconst dX1_oneToFour_2 ?_
  refine ma_iload_n dX1_oneToFour_3 rfl ?_
  refine ma_ishl dX1_oneToFour_4 ?_
  refine ma_cV [_, _] dX1_oneToFour_5 wX1_layOut lX1_154 iX1_layOut sX1_layOut rfl (by first | exact vh_57 | exact vh_58 | exact (vh_n (by omega)).trans (by assumption)) (Nat.le_of_ble_eq_true rfl) ?_
  refine c_X1_layOut (S := fun i => i = k) hm hb nb (by omega) (mk_1 (by omega) (by omega)) (fun H T hL => ?_)
  rw [sty_1 (by omega) (by omega)]
  refine ma_istoreN dX1_oneToFour_8 (by decide) rfl ?_
  refine ma_iconst dX1_oneToFour_10 ?_
  refine ma_istoreN dX1_oneToFour_11 (by decide) rfl ?_
  show ma_J none mX1_oneToFour (d + 2) 0 0 13 [some (vr 54), some (vr b), some (vi k), some (vr c), some (vi (t - 1)), some (vi 0)] [] _ nx Q
  refine ma_iload dX1_oneToFour_13 rfl ?_
  refine ma_iconst dX1_oneToFour_15 ?_
  refine ma_rcmp_ge 41 dX1_oneToFour_16 rfl (by decide) (by decide) (fun c16 => absurd c16 (by decide)) (fun c16 => ?_)
  refine ma_aload_n dX1_oneToFour_19 rfl ?_
  refine ma_iconst dX1_oneToFour_20 ?_
  refine ma_iload_n dX1_oneToFour_21 rfl ?_
  refine ma_imul dX1_oneToFour_22 ?_
  refine ma_iload dX1_oneToFour_23 rfl ?_
  refine ma_iadd dX1_oneToFour_25 ?_
  refine ma_iload dX1_oneToFour_26 rfl ?_
  refine ma_iload dX1_oneToFour_28 rfl ?_
  refine ma_iadd dX1_oneToFour_30 ?_
  refine ma_iconst dX1_oneToFour_31 ?_
  refine ma_cV [_, _, _] dX1_oneToFour_32 wX1_put lX1_157 iX1_put sX1_put rfl (by first | exact vh_57 | exact vh_58 | exact (vh_n (by omega)).trans (by assumption)) (Nat.le_of_ble_eq_true rfl) ?_
  refine c_X1_put hm (by constructor <;> omega) ?_
  refine ma_iincK (1) dX1_oneToFour_35 rfl (by decide) rfl (by decide) ?_
  refine ma_goto 13 dX1_oneToFour_38 rfl ?_
  show ma_J none mX1_oneToFour (d + 2) 0 0 13 [some (vr 54), some (vr b), some (vi k), some (vr c), some (vi (t - 1)), some (vi 1)] [] _ nx Q
  refine ma_iload dX1_oneToFour_13 rfl ?_
  refine ma_iconst dX1_oneToFour_15 ?_
  refine ma_rcmp_ge 41 dX1_oneToFour_16 rfl (by decide) (by decide) (fun c16 => absurd c16 (by decide)) (fun c16 => ?_)
  refine ma_aload_n dX1_oneToFour_19 rfl ?_
  refine ma_iconst dX1_oneToFour_20 ?_
  refine ma_iload_n dX1_oneToFour_21 rfl ?_
  refine ma_imul dX1_oneToFour_22 ?_
  refine ma_iload dX1_oneToFour_23 rfl ?_
  refine ma_iadd dX1_oneToFour_25 ?_
  refine ma_iload dX1_oneToFour_26 rfl ?_
  refine ma_iload dX1_oneToFour_28 rfl ?_
  refine ma_iadd dX1_oneToFour_30 ?_
  refine ma_iconst dX1_oneToFour_31 ?_
  refine ma_cV [_, _, _] dX1_oneToFour_32 wX1_put lX1_157 iX1_put sX1_put rfl (by first | exact vh_57 | exact vh_58 | exact (vh_n (by omega)).trans (by assumption)) (Nat.le_of_ble_eq_true rfl) ?_
  refine c_X1_put hm (by constructor <;> omega) ?_
  refine ma_iincK (2) dX1_oneToFour_35 rfl (by decide) rfl (by decide) ?_
  refine ma_goto 13 dX1_oneToFour_38 rfl ?_
  show ma_J none mX1_oneToFour (d + 2) 0 0 13 [some (vr 54), some (vr b), some (vi k), some (vr c), some (vi (t - 1)), some (vi 2)] [] _ nx Q
  refine ma_iload dX1_oneToFour_13 rfl ?_
  refine ma_iconst dX1_oneToFour_15 ?_
  refine ma_rcmp_ge 41 dX1_oneToFour_16 rfl (by decide) (by decide) (fun c16 => absurd c16 (by decide)) (fun c16 => ?_)
  refine ma_aload_n dX1_oneToFour_19 rfl ?_
  refine ma_iconst dX1_oneToFour_20 ?_
  refine ma_iload_n dX1_oneToFour_21 rfl ?_
  refine ma_imul dX1_oneToFour_22 ?_
  refine ma_iload dX1_oneToFour_23 rfl ?_
  refine ma_iadd dX1_oneToFour_25 ?_
  refine ma_iload dX1_oneToFour_26 rfl ?_
  refine ma_iload dX1_oneToFour_28 rfl ?_
  refine ma_iadd dX1_oneToFour_30 ?_
  refine ma_iconst dX1_oneToFour_31 ?_
  refine ma_cV [_, _, _] dX1_oneToFour_32 wX1_put lX1_157 iX1_put sX1_put rfl (by first | exact vh_57 | exact vh_58 | exact (vh_n (by omega)).trans (by assumption)) (Nat.le_of_ble_eq_true rfl) ?_
  refine c_X1_put hm (by constructor <;> omega) ?_
  refine ma_iincK (3) dX1_oneToFour_35 rfl (by decide) rfl (by decide) ?_
  refine ma_goto 13 dX1_oneToFour_38 rfl ?_
  show ma_J none mX1_oneToFour (d + 2) 0 0 13 [some (vr 54), some (vr b), some (vi k), some (vr c), some (vi (t - 1)), some (vi 3)] [] _ nx Q
  refine ma_iload dX1_oneToFour_13 rfl ?_
  refine ma_iconst dX1_oneToFour_15 ?_
  refine ma_rcmp_ge 41 dX1_oneToFour_16 rfl (by decide) (by decide) (fun c16 => absurd c16 (by decide)) (fun c16 => ?_)
  refine ma_aload_n dX1_oneToFour_19 rfl ?_
  refine ma_iconst dX1_oneToFour_20 ?_
  refine ma_iload_n dX1_oneToFour_21 rfl ?_
  refine ma_imul dX1_oneToFour_22 ?_
  refine ma_iload dX1_oneToFour_23 rfl ?_
  refine ma_iadd dX1_oneToFour_25 ?_
  refine ma_iload dX1_oneToFour_26 rfl ?_
  refine ma_iload dX1_oneToFour_28 rfl ?_
  refine ma_iadd dX1_oneToFour_30 ?_
  refine ma_iconst dX1_oneToFour_31 ?_
  refine ma_cV [_, _, _] dX1_oneToFour_32 wX1_put lX1_157 iX1_put sX1_put rfl (by first | exact vh_57 | exact vh_58 | exact (vh_n (by omega)).trans (by assumption)) (Nat.le_of_ble_eq_true rfl) ?_
  refine c_X1_put hm (by constructor <;> omega) ?_
  refine ma_iincK (4) dX1_oneToFour_35 rfl (by decide) rfl (by decide) ?_
  refine ma_goto 13 dX1_oneToFour_38 rfl ?_
  show ma_J none mX1_oneToFour (d + 2) 0 0 13 [some (vr 54), some (vr b), some (vi k), some (vr c), some (vi (t - 1)), some (vi 4)] [] _ nx Q
  refine ma_iload dX1_oneToFour_13 rfl ?_
  refine ma_iconst dX1_oneToFour_15 ?_
  refine ma_rcmp_ge 41 dX1_oneToFour_16 rfl (by decide) (by decide) (fun c16 => ?_) (fun c16 => absurd c16 (by decide))
  refine ma_aload_n dX1_oneToFour_41 rfl ?_
  refine ma_aload_n dX1_oneToFour_42 rfl ?_
  refine ma_aload_n dX1_oneToFour_43 rfl ?_
  refine ma_cV [_, _] dX1_oneToFour_44 wX1_carry lX1_165 iX1_carry sX1_carry rfl (by first | exact vh_57 | exact vh_58 | exact (vh_n (by omega)).trans (by assumption)) (Nat.le_of_ble_eq_true rfl) ?_
  refine c_X1_carry ((vh_n (by omega)).trans hm) ((vh_n (by omega)).trans hb) ((vh_n (by omega)).trans hg) vh_57 vh_58 ((vh_n (by omega)).trans hc) ne.2.2 n2 n3 ne.1 ne.2.1 n6 hG (uf_r (uf_r (uf_r (uf_r (fun j j0 j1 => by rw [(hL j j0 j1).1]; exact lo_in _ (by omega) j j0 j1) (by constructor <;> omega)) (by constructor <;> omega)) (by constructor <;> omega)) (by constructor <;> omega)) (uf_r (uf_r (uf_r (uf_r (fun j j0 j1 => by have := (hL j j0 j1).2; omega) (by decide)) (by decide)) (by decide)) (by decide)) ((vh_n (by omega)).trans he) ?_
  refine ma_aload_n dX1_oneToFour_47 rfl ?_
  refine ma_iload dX1_oneToFour_48 rfl ?_
  refine ma_iconst dX1_oneToFour_50 ?_
  refine ma_cS [_, _, _] dX1_oneToFour_51 wX1_joinFan lX1_169 tX1_joinFan (Nat.le_of_ble_eq_true rfl) ?_
  refine c_X1_joinFan4 ((ma_up_n (Ne.symm n6)).trans ((vh_n (by omega)).trans hc)) (ma_up_s _ _ _) (Ne.symm n6) (by constructor <;> omega) ?_
  rw [ma_up_up]
  exact ma_vret dX1_oneToFour_54 rfl (K H T hL)
set_option maxHeartbeats 2000000 in
theorem c_X1_four0 {h : ma_H} {b g c e nx d : Nat} {t u k : Int} {G C H T : Int → Int} {Q : Option ma_V → ma_H → Nat → Prop} {S : Int → Prop} (hm : h 54 = co 1 [vr 44, vr 39, vr 55, vr 57, vr 58]) (hb : h b = co 8 [vi t, vr g]) (hg : h g = ci 32 G) (hc : h c = co 8 [vi u, vr e]) (he : h e = ci 32 C) (nb : b ≠ 57 ∧ b ≠ 58) (ng : g ≠ 57 ∧ g ≠ 58) (nc : c ≠ 57 ∧ c ≠ 58) (ne : e ≠ 57 ∧ e ≠ 58 ∧ e ≠ 54) (n2 : e ≠ b) (n3 : e ≠ g) (n6 : e ≠ c) (hG : VG t G) (hk : 0 ≤ k ∧ k < 4 * t) (hf : k % 4 = 0) (hgl : ∀ x, 0 ≤ x → x < 4 → x ≠ k % 4 → 0 ≤ G (4 * (k / 4) + x) ∧ G (4 * (k / 4) + x) < 256 ∧ 0 ≤ G (4 * (k / 4) + x) % 32 ∧ G (4 * (k / 4) + x) % 32 < 24 ∧ G (4 * (k / 4) + x) / 32 < t) (hS : ∀ i, 0 ≤ i → i < 8 → (NS G k 4 i ∨ i = k / 4 ↔ S i)) (hs7 : sty S t < 8) (K : ∀ H T, (∀ j, 0 ≤ j → j < 4 * t → H j = lo S j ∧ T j = 0) → Q none (ma_up (vh h (uf (uf (uf (uf H (k) (sty S t)) (4 * (G (4 * (k / 4) + 1) / 32) + im (G (4 * (k / 4) + 1) % 32) 0) (sty S t)) (4 * (G (4 * (k / 4) + 2) / 32) + im (G (4 * (k / 4) + 2) % 32) 0) (sty S t)) (4 * (G (4 * (k / 4) + 3) / 32) + im (G (4 * (k / 4) + 3) % 32) 0) (sty S t)) (uf (uf (uf (uf T (k) (0)) (4 * (G (4 * (k / 4) + 1) / 32) + im (G (4 * (k / 4) + 1) % 32) 0) (af (sx 1 0) (iv (G (4 * (k / 4) + 1) % 32)))) (4 * (G (4 * (k / 4) + 2) / 32) + im (G (4 * (k / 4) + 2) % 32) 0) (af (sx 2 0) (iv (G (4 * (k / 4) + 2) % 32)))) (4 * (G (4 * (k / 4) + 3) / 32) + im (G (4 * (k / 4) + 3) % 32) 0) (af (sx 3 0) (iv (G (4 * (k / 4) + 3) % 32))))) e (ci 32 (cy G (uf (uf (uf (uf H (k) (sty S t)) (4 * (G (4 * (k / 4) + 1) / 32) + im (G (4 * (k / 4) + 1) % 32) 0) (sty S t)) (4 * (G (4 * (k / 4) + 2) / 32) + im (G (4 * (k / 4) + 2) % 32) 0) (sty S t)) (4 * (G (4 * (k / 4) + 3) / 32) + im (G (4 * (k / 4) + 3) % 32) 0) (sty S t)) (uf (uf (uf (uf T (k) (0)) (4 * (G (4 * (k / 4) + 1) / 32) + im (G (4 * (k / 4) + 1) % 32) 0) (af (sx 1 0) (iv (G (4 * (k / 4) + 1) % 32)))) (4 * (G (4 * (k / 4) + 2) / 32) + im (G (4 * (k / 4) + 2) % 32) 0) (af (sx 2 0) (iv (G (4 * (k / 4) + 2) % 32)))) (4 * (G (4 * (k / 4) + 3) / 32) + im (G (4 * (k / 4) + 3) % 32) 0) (af (sx 3 0) (iv (G (4 * (k / 4) + 3) % 32)))) C (4 * t).toNat))) nx) : ma_Ct mX1_fourToOne (d + 2) 0 0 [vr 54, vr b, vi k, vr c] (vh h H T) nx Q := by
  have ht := hG.1
  have g1 := hgl 1 (by decide) (by decide) (by omega)
  have i1 := iv_in g1.2.2.1 g1.2.2.2.1
  have b1 := im_in g1.2.2.1 g1.2.2.2.1 (show (0 : Int) ≤ 0 by decide) (by decide)
  have a1 := af_in (sx_ok (i := 1) (j := 0) (by decide) (by decide) (by decide) (by decide)).1 (sx_ok (i := 1) (j := 0) (by decide) (by decide) (by decide) (by decide)).2.1 i1.1 i1.2
  have g2 := hgl 2 (by decide) (by decide) (by omega)
  have i2 := iv_in g2.2.2.1 g2.2.2.2.1
  have b2 := im_in g2.2.2.1 g2.2.2.2.1 (show (0 : Int) ≤ 0 by decide) (by decide)
  have a2 := af_in (sx_ok (i := 2) (j := 0) (by decide) (by decide) (by decide) (by decide)).1 (sx_ok (i := 2) (j := 0) (by decide) (by decide) (by decide) (by decide)).2.1 i2.1 i2.2
  have g3 := hgl 3 (by decide) (by decide) (by omega)
  have i3 := iv_in g3.2.2.1 g3.2.2.2.1
  have b3 := im_in g3.2.2.1 g3.2.2.2.1 (show (0 : Int) ≤ 0 by decide) (by decide)
  have a3 := af_in (sx_ok (i := 3) (j := 0) (by decide) (by decide) (by decide) (by decide)).1 (sx_ok (i := 3) (j := 0) (by decide) (by decide) (by decide) (by decide)).2.1 i3.1 i3.2
  refine ma_Ct.of (by decide +kernel) (Nat.le_of_ble_eq_true rfl) ?_
  refine ma_iload_n dX1_fourToOne_0 rfl ?_
  refine ma_iconst dX1_fourToOne_1 ?_
  refine ma_kshr 4 dX1_fourToOne_2 (by decide) (by constructor <;> omega) ?_
  refine ma_istoreN dX1_fourToOne_3 (by decide) rfl ?_
  refine ma_iload_n dX1_fourToOne_5 rfl ?_
  refine ma_iconst dX1_fourToOne_6 ?_
  refine ma_kand 2 4 dX1_fourToOne_7 (by decide) (by decide +kernel) (by decide) ?_
  rw [hf]
  refine ma_istoreN dX1_fourToOne_8 (by decide) rfl ?_
  refine ma_aload_n dX1_fourToOne_10 rfl ?_
  refine ma_aload_n dX1_fourToOne_11 rfl ?_
  refine ma_aload_n dX1_fourToOne_12 rfl ?_
  refine ma_iload_n dX1_fourToOne_13 rfl ?_
  refine ma_cS [_, _] dX1_fourToOne_14 wX1_neighbours lX1_123 tX1_neighbours (Nat.le_of_ble_eq_true rfl) ?_
  refine c_X1_neighbours ((vh_n (by omega)).trans hb) ((vh_n (by omega)).trans hg) hG (by constructor <;> omega) (fun m hM => ?_)
  refine ma_iconst dX1_fourToOne_17 ?_
  refine ma_iload dX1_fourToOne_18 rfl ?_
  refine ma_ishl dX1_fourToOne_20 ?_
  refine ma_ior dX1_fourToOne_21 ?_
  refine ma_cV [_, _] dX1_fourToOne_22 wX1_layOut lX1_154 iX1_layOut sX1_layOut rfl (by first | exact vh_57 | exact vh_58 | exact (vh_n (by omega)).trans (by assumption)) (Nat.le_of_ble_eq_true rfl) ?_
  refine c_X1_layOut (S := S) hm hb nb (by omega) (mk_iff (mk_or hM (by omega) (by omega)) (fun i i0 i1 => hS i i0 i1)) (fun H T hL => ?_)
  have hst := sty_in S (show 0 ≤ t by omega)
  refine ma_istoreN dX1_fourToOne_25 (by decide) rfl ?_
  refine ma_aload_n dX1_fourToOne_27 rfl ?_
  refine ma_iload_n dX1_fourToOne_28 rfl ?_
  refine ma_iload dX1_fourToOne_29 rfl ?_
  refine ma_iconst dX1_fourToOne_31 ?_
  refine ma_cV [_, _, _] dX1_fourToOne_32 wX1_put lX1_157 iX1_put sX1_put rfl (by first | exact vh_57 | exact vh_58 | exact (vh_n (by omega)).trans (by assumption)) (Nat.le_of_ble_eq_true rfl) ?_
  refine c_X1_put hm (by constructor <;> omega) ?_
  refine ma_iconst dX1_fourToOne_35 ?_
  refine ma_istoreN dX1_fourToOne_36 (by decide) rfl ?_
  show ma_J none mX1_fourToOne (d + 2) 0 0 38 [some (vr 54), some (vr b), some (vi k), some (vr c), some (vi (k / 4)), some (vi 0), some (vi (sty S t)), some (vi 0)] [] _ nx Q
  refine ma_iload dX1_fourToOne_38 rfl ?_
  refine ma_iconst dX1_fourToOne_40 ?_
  refine ma_rcmp_ge 79 dX1_fourToOne_41 rfl (by decide) (by decide) (fun c41 => absurd c41 (by decide)) (fun c41 => ?_)
  refine ma_iload dX1_fourToOne_44 rfl ?_
  refine ma_iload dX1_fourToOne_46 rfl ?_
  refine ma_rcmp_eq 73 dX1_fourToOne_48 rfl (by decide) (by decide) (fun c48 => ?_) (fun c48 => absurd c48 (by decide))
  refine ma_iincK (1) dX1_fourToOne_73 rfl (by decide) rfl (by decide) ?_
  refine ma_goto 38 dX1_fourToOne_76 rfl ?_
  show ma_J none mX1_fourToOne (d + 2) 0 0 38 [some (vr 54), some (vr b), some (vi k), some (vr c), some (vi (k / 4)), some (vi 0), some (vi (sty S t)), some (vi 1)] [] _ nx Q
  refine ma_iload dX1_fourToOne_38 rfl ?_
  refine ma_iconst dX1_fourToOne_40 ?_
  refine ma_rcmp_ge 79 dX1_fourToOne_41 rfl (by decide) (by decide) (fun c41 => absurd c41 (by decide)) (fun c41 => ?_)
  refine ma_iload dX1_fourToOne_44 rfl ?_
  refine ma_iload dX1_fourToOne_46 rfl ?_
  refine ma_rcmp_eq 73 dX1_fourToOne_48 rfl (by decide) (by decide) (fun c48 => absurd c48 (by decide)) (fun c48 => ?_)
  refine ma_aload_n dX1_fourToOne_51 rfl ?_
  refine ma_aload_n dX1_fourToOne_52 rfl ?_
  refine ma_getf dX1_fourToOne_53 fX1_92 (by first | exact vh_57 | exact vh_58 | exact (vh_n (by omega)).trans (by assumption)) (by rfl) ?_
  refine ma_iconst dX1_fourToOne_56 ?_
  refine ma_iload dX1_fourToOne_57 rfl ?_
  refine ma_imul dX1_fourToOne_59 ?_
  refine ma_iload dX1_fourToOne_60 rfl ?_
  refine ma_iadd dX1_fourToOne_62 ?_
  refine ma_iald dX1_fourToOne_63 (by first | exact vh_57 | exact vh_58 | exact (vh_n (by omega)).trans (by assumption)) (by omega) (by omega) (by omega) ?_
  refine ma_iload dX1_fourToOne_64 rfl ?_
  refine ma_iload dX1_fourToOne_66 rfl ?_
  refine ma_iload dX1_fourToOne_68 rfl ?_
  refine ma_cV [_, _, _, _] dX1_fourToOne_70 wX1_putBeyond lX1_161 iX1_putBeyond sX1_putBeyond rfl (by first | exact vh_57 | exact vh_58 | exact (vh_n (by omega)).trans (by assumption)) (Nat.le_of_ble_eq_true rfl) ?_
  refine c_X1_putBeyond hm (by constructor <;> omega) (by omega) (by decide) (by decide) ?_
  refine ma_iincK (2) dX1_fourToOne_73 rfl (by decide) rfl (by decide) ?_
  refine ma_goto 38 dX1_fourToOne_76 rfl ?_
  show ma_J none mX1_fourToOne (d + 2) 0 0 38 [some (vr 54), some (vr b), some (vi k), some (vr c), some (vi (k / 4)), some (vi 0), some (vi (sty S t)), some (vi 2)] [] _ nx Q
  refine ma_iload dX1_fourToOne_38 rfl ?_
  refine ma_iconst dX1_fourToOne_40 ?_
  refine ma_rcmp_ge 79 dX1_fourToOne_41 rfl (by decide) (by decide) (fun c41 => absurd c41 (by decide)) (fun c41 => ?_)
  refine ma_iload dX1_fourToOne_44 rfl ?_
  refine ma_iload dX1_fourToOne_46 rfl ?_
  refine ma_rcmp_eq 73 dX1_fourToOne_48 rfl (by decide) (by decide) (fun c48 => absurd c48 (by decide)) (fun c48 => ?_)
  refine ma_aload_n dX1_fourToOne_51 rfl ?_
  refine ma_aload_n dX1_fourToOne_52 rfl ?_
  refine ma_getf dX1_fourToOne_53 fX1_92 (by first | exact vh_57 | exact vh_58 | exact (vh_n (by omega)).trans (by assumption)) (by rfl) ?_
  refine ma_iconst dX1_fourToOne_56 ?_
  refine ma_iload dX1_fourToOne_57 rfl ?_
  refine ma_imul dX1_fourToOne_59 ?_
  refine ma_iload dX1_fourToOne_60 rfl ?_
  refine ma_iadd dX1_fourToOne_62 ?_
  refine ma_iald dX1_fourToOne_63 (by first | exact vh_57 | exact vh_58 | exact (vh_n (by omega)).trans (by assumption)) (by omega) (by omega) (by omega) ?_
  refine ma_iload dX1_fourToOne_64 rfl ?_
  refine ma_iload dX1_fourToOne_66 rfl ?_
  refine ma_iload dX1_fourToOne_68 rfl ?_
  refine ma_cV [_, _, _, _] dX1_fourToOne_70 wX1_putBeyond lX1_161 iX1_putBeyond sX1_putBeyond rfl (by first | exact vh_57 | exact vh_58 | exact (vh_n (by omega)).trans (by assumption)) (Nat.le_of_ble_eq_true rfl) ?_
  refine c_X1_putBeyond hm (by constructor <;> omega) (by omega) (by decide) (by decide) ?_
  refine ma_iincK (3) dX1_fourToOne_73 rfl (by decide) rfl (by decide) ?_
  refine ma_goto 38 dX1_fourToOne_76 rfl ?_
  show ma_J none mX1_fourToOne (d + 2) 0 0 38 [some (vr 54), some (vr b), some (vi k), some (vr c), some (vi (k / 4)), some (vi 0), some (vi (sty S t)), some (vi 3)] [] _ nx Q
  refine ma_iload dX1_fourToOne_38 rfl ?_
  refine ma_iconst dX1_fourToOne_40 ?_
  refine ma_rcmp_ge 79 dX1_fourToOne_41 rfl (by decide) (by decide) (fun c41 => absurd c41 (by decide)) (fun c41 => ?_)
  refine ma_iload dX1_fourToOne_44 rfl ?_
  refine ma_iload dX1_fourToOne_46 rfl ?_
  refine ma_rcmp_eq 73 dX1_fourToOne_48 rfl (by decide) (by decide) (fun c48 => absurd c48 (by decide)) (fun c48 => ?_)
  refine ma_aload_n dX1_fourToOne_51 rfl ?_
  refine ma_aload_n dX1_fourToOne_52 rfl ?_
  refine ma_getf dX1_fourToOne_53 fX1_92 (by first | exact vh_57 | exact vh_58 | exact (vh_n (by omega)).trans (by assumption)) (by rfl) ?_
  refine ma_iconst dX1_fourToOne_56 ?_
  refine ma_iload dX1_fourToOne_57 rfl ?_
  refine ma_imul dX1_fourToOne_59 ?_
  refine ma_iload dX1_fourToOne_60 rfl ?_
  refine ma_iadd dX1_fourToOne_62 ?_
  refine ma_iald dX1_fourToOne_63 (by first | exact vh_57 | exact vh_58 | exact (vh_n (by omega)).trans (by assumption)) (by omega) (by omega) (by omega) ?_
  refine ma_iload dX1_fourToOne_64 rfl ?_
  refine ma_iload dX1_fourToOne_66 rfl ?_
  refine ma_iload dX1_fourToOne_68 rfl ?_
  refine ma_cV [_, _, _, _] dX1_fourToOne_70 wX1_putBeyond lX1_161 iX1_putBeyond sX1_putBeyond rfl (by first | exact vh_57 | exact vh_58 | exact (vh_n (by omega)).trans (by assumption)) (Nat.le_of_ble_eq_true rfl) ?_
  refine c_X1_putBeyond hm (by constructor <;> omega) (by omega) (by decide) (by decide) ?_
  refine ma_iincK (4) dX1_fourToOne_73 rfl (by decide) rfl (by decide) ?_
  refine ma_goto 38 dX1_fourToOne_76 rfl ?_
  show ma_J none mX1_fourToOne (d + 2) 0 0 38 [some (vr 54), some (vr b), some (vi k), some (vr c), some (vi (k / 4)), some (vi 0), some (vi (sty S t)), some (vi 4)] [] _ nx Q
  refine ma_iload dX1_fourToOne_38 rfl ?_
  refine ma_iconst dX1_fourToOne_40 ?_
  refine ma_rcmp_ge 79 dX1_fourToOne_41 rfl (by decide) (by decide) (fun c41 => ?_) (fun c41 => absurd c41 (by decide))
  refine ma_aload_n dX1_fourToOne_79 rfl ?_
  refine ma_aload_n dX1_fourToOne_80 rfl ?_
  refine ma_aload_n dX1_fourToOne_81 rfl ?_
  refine ma_cV [_, _] dX1_fourToOne_82 wX1_carry lX1_165 iX1_carry sX1_carry rfl (by first | exact vh_57 | exact vh_58 | exact (vh_n (by omega)).trans (by assumption)) (Nat.le_of_ble_eq_true rfl) ?_
  refine c_X1_carry ((vh_n (by omega)).trans hm) ((vh_n (by omega)).trans hb) ((vh_n (by omega)).trans hg) vh_57 vh_58 ((vh_n (by omega)).trans hc) ne.2.2 n2 n3 ne.1 ne.2.1 n6 hG (uf_r (uf_r (uf_r (uf_r (fun j j0 j1 => by rw [(hL j j0 j1).1]; exact lo_in _ (by omega) j j0 j1) (by constructor <;> omega)) (by constructor <;> omega)) (by constructor <;> omega)) (by constructor <;> omega)) (uf_r (uf_r (uf_r (uf_r (fun j j0 j1 => by have := (hL j j0 j1).2; omega) (by decide)) a1) a2) a3) ((vh_n (by omega)).trans he) ?_
  exact ma_vret dX1_fourToOne_85 rfl (K H T hL)
set_option maxHeartbeats 2000000 in
theorem c_X1_four1 {h : ma_H} {b g c e nx d : Nat} {t u k : Int} {G C H T : Int → Int} {Q : Option ma_V → ma_H → Nat → Prop} {S : Int → Prop} (hm : h 54 = co 1 [vr 44, vr 39, vr 55, vr 57, vr 58]) (hb : h b = co 8 [vi t, vr g]) (hg : h g = ci 32 G) (hc : h c = co 8 [vi u, vr e]) (he : h e = ci 32 C) (nb : b ≠ 57 ∧ b ≠ 58) (ng : g ≠ 57 ∧ g ≠ 58) (nc : c ≠ 57 ∧ c ≠ 58) (ne : e ≠ 57 ∧ e ≠ 58 ∧ e ≠ 54) (n2 : e ≠ b) (n3 : e ≠ g) (n6 : e ≠ c) (hG : VG t G) (hk : 0 ≤ k ∧ k < 4 * t) (hf : k % 4 = 1) (hgl : ∀ x, 0 ≤ x → x < 4 → x ≠ k % 4 → 0 ≤ G (4 * (k / 4) + x) ∧ G (4 * (k / 4) + x) < 256 ∧ 0 ≤ G (4 * (k / 4) + x) % 32 ∧ G (4 * (k / 4) + x) % 32 < 24 ∧ G (4 * (k / 4) + x) / 32 < t) (hS : ∀ i, 0 ≤ i → i < 8 → (NS G k 4 i ∨ i = k / 4 ↔ S i)) (hs7 : sty S t < 8) (K : ∀ H T, (∀ j, 0 ≤ j → j < 4 * t → H j = lo S j ∧ T j = 0) → Q none (ma_up (vh h (uf (uf (uf (uf H (k) (sty S t)) (4 * (G (4 * (k / 4) + 0) / 32) + im (G (4 * (k / 4) + 0) % 32) 1) (sty S t)) (4 * (G (4 * (k / 4) + 2) / 32) + im (G (4 * (k / 4) + 2) % 32) 1) (sty S t)) (4 * (G (4 * (k / 4) + 3) / 32) + im (G (4 * (k / 4) + 3) % 32) 1) (sty S t)) (uf (uf (uf (uf T (k) (0)) (4 * (G (4 * (k / 4) + 0) / 32) + im (G (4 * (k / 4) + 0) % 32) 1) (af (sx 0 1) (iv (G (4 * (k / 4) + 0) % 32)))) (4 * (G (4 * (k / 4) + 2) / 32) + im (G (4 * (k / 4) + 2) % 32) 1) (af (sx 2 1) (iv (G (4 * (k / 4) + 2) % 32)))) (4 * (G (4 * (k / 4) + 3) / 32) + im (G (4 * (k / 4) + 3) % 32) 1) (af (sx 3 1) (iv (G (4 * (k / 4) + 3) % 32))))) e (ci 32 (cy G (uf (uf (uf (uf H (k) (sty S t)) (4 * (G (4 * (k / 4) + 0) / 32) + im (G (4 * (k / 4) + 0) % 32) 1) (sty S t)) (4 * (G (4 * (k / 4) + 2) / 32) + im (G (4 * (k / 4) + 2) % 32) 1) (sty S t)) (4 * (G (4 * (k / 4) + 3) / 32) + im (G (4 * (k / 4) + 3) % 32) 1) (sty S t)) (uf (uf (uf (uf T (k) (0)) (4 * (G (4 * (k / 4) + 0) / 32) + im (G (4 * (k / 4) + 0) % 32) 1) (af (sx 0 1) (iv (G (4 * (k / 4) + 0) % 32)))) (4 * (G (4 * (k / 4) + 2) / 32) + im (G (4 * (k / 4) + 2) % 32) 1) (af (sx 2 1) (iv (G (4 * (k / 4) + 2) % 32)))) (4 * (G (4 * (k / 4) + 3) / 32) + im (G (4 * (k / 4) + 3) % 32) 1) (af (sx 3 1) (iv (G (4 * (k / 4) + 3) % 32)))) C (4 * t).toNat))) nx) : ma_Ct mX1_fourToOne (d + 2) 0 0 [vr 54, vr b, vi k, vr c] (vh h H T) nx Q := by
  have ht := hG.1
  have g0 := hgl 0 (by decide) (by decide) (by omega)
  have i0 := iv_in g0.2.2.1 g0.2.2.2.1
  have b0 := im_in g0.2.2.1 g0.2.2.2.1 (show (0 : Int) ≤ 1 by decide) (by decide)
  have a0 := af_in (sx_ok (i := 0) (j := 1) (by decide) (by decide) (by decide) (by decide)).1 (sx_ok (i := 0) (j := 1) (by decide) (by decide) (by decide) (by decide)).2.1 i0.1 i0.2
  have g2 := hgl 2 (by decide) (by decide) (by omega)
  have i2 := iv_in g2.2.2.1 g2.2.2.2.1
  have b2 := im_in g2.2.2.1 g2.2.2.2.1 (show (0 : Int) ≤ 1 by decide) (by decide)
  have a2 := af_in (sx_ok (i := 2) (j := 1) (by decide) (by decide) (by decide) (by decide)).1 (sx_ok (i := 2) (j := 1) (by decide) (by decide) (by decide) (by decide)).2.1 i2.1 i2.2
  have g3 := hgl 3 (by decide) (by decide) (by omega)
  have i3 := iv_in g3.2.2.1 g3.2.2.2.1
  have b3 := im_in g3.2.2.1 g3.2.2.2.1 (show (0 : Int) ≤ 1 by decide) (by decide)
  have a3 := af_in (sx_ok (i := 3) (j := 1) (by decide) (by decide) (by decide) (by decide)).1 (sx_ok (i := 3) (j := 1) (by decide) (by decide) (by decide) (by decide)).2.1 i3.1 i3.2
  refine ma_Ct.of (by decide +kernel) (Nat.le_of_ble_eq_true rfl) ?_
  refine ma_iload_n dX1_fourToOne_0 rfl ?_
  refine ma_iconst dX1_fourToOne_1 ?_
  refine ma_kshr 4 dX1_fourToOne_2 (by decide) (by constructor <;> omega) ?_
  refine ma_istoreN dX1_fourToOne_3 (by decide) rfl ?_
  refine ma_iload_n dX1_fourToOne_5 rfl ?_
  refine ma_iconst dX1_fourToOne_6 ?_
  refine ma_kand 2 4 dX1_fourToOne_7 (by decide) (by decide +kernel) (by decide) ?_
  rw [hf]
  refine ma_istoreN dX1_fourToOne_8 (by decide) rfl ?_
  refine ma_aload_n dX1_fourToOne_10 rfl ?_
  refine ma_aload_n dX1_fourToOne_11 rfl ?_
  refine ma_aload_n dX1_fourToOne_12 rfl ?_
  refine ma_iload_n dX1_fourToOne_13 rfl ?_
  refine ma_cS [_, _] dX1_fourToOne_14 wX1_neighbours lX1_123 tX1_neighbours (Nat.le_of_ble_eq_true rfl) ?_
  refine c_X1_neighbours ((vh_n (by omega)).trans hb) ((vh_n (by omega)).trans hg) hG (by constructor <;> omega) (fun m hM => ?_)
  refine ma_iconst dX1_fourToOne_17 ?_
  refine ma_iload dX1_fourToOne_18 rfl ?_
  refine ma_ishl dX1_fourToOne_20 ?_
  refine ma_ior dX1_fourToOne_21 ?_
  refine ma_cV [_, _] dX1_fourToOne_22 wX1_layOut lX1_154 iX1_layOut sX1_layOut rfl (by first | exact vh_57 | exact vh_58 | exact (vh_n (by omega)).trans (by assumption)) (Nat.le_of_ble_eq_true rfl) ?_
  refine c_X1_layOut (S := S) hm hb nb (by omega) (mk_iff (mk_or hM (by omega) (by omega)) (fun i i0 i1 => hS i i0 i1)) (fun H T hL => ?_)
  have hst := sty_in S (show 0 ≤ t by omega)
  refine ma_istoreN dX1_fourToOne_25 (by decide) rfl ?_
  refine ma_aload_n dX1_fourToOne_27 rfl ?_
  refine ma_iload_n dX1_fourToOne_28 rfl ?_
  refine ma_iload dX1_fourToOne_29 rfl ?_
  refine ma_iconst dX1_fourToOne_31 ?_
  refine ma_cV [_, _, _] dX1_fourToOne_32 wX1_put lX1_157 iX1_put sX1_put rfl (by first | exact vh_57 | exact vh_58 | exact (vh_n (by omega)).trans (by assumption)) (Nat.le_of_ble_eq_true rfl) ?_
  refine c_X1_put hm (by constructor <;> omega) ?_
  refine ma_iconst dX1_fourToOne_35 ?_
  refine ma_istoreN dX1_fourToOne_36 (by decide) rfl ?_
  show ma_J none mX1_fourToOne (d + 2) 0 0 38 [some (vr 54), some (vr b), some (vi k), some (vr c), some (vi (k / 4)), some (vi 1), some (vi (sty S t)), some (vi 0)] [] _ nx Q
  refine ma_iload dX1_fourToOne_38 rfl ?_
  refine ma_iconst dX1_fourToOne_40 ?_
  refine ma_rcmp_ge 79 dX1_fourToOne_41 rfl (by decide) (by decide) (fun c41 => absurd c41 (by decide)) (fun c41 => ?_)
  refine ma_iload dX1_fourToOne_44 rfl ?_
  refine ma_iload dX1_fourToOne_46 rfl ?_
  refine ma_rcmp_eq 73 dX1_fourToOne_48 rfl (by decide) (by decide) (fun c48 => absurd c48 (by decide)) (fun c48 => ?_)
  refine ma_aload_n dX1_fourToOne_51 rfl ?_
  refine ma_aload_n dX1_fourToOne_52 rfl ?_
  refine ma_getf dX1_fourToOne_53 fX1_92 (by first | exact vh_57 | exact vh_58 | exact (vh_n (by omega)).trans (by assumption)) (by rfl) ?_
  refine ma_iconst dX1_fourToOne_56 ?_
  refine ma_iload dX1_fourToOne_57 rfl ?_
  refine ma_imul dX1_fourToOne_59 ?_
  refine ma_iload dX1_fourToOne_60 rfl ?_
  refine ma_iadd dX1_fourToOne_62 ?_
  refine ma_iald dX1_fourToOne_63 (by first | exact vh_57 | exact vh_58 | exact (vh_n (by omega)).trans (by assumption)) (by omega) (by omega) (by omega) ?_
  refine ma_iload dX1_fourToOne_64 rfl ?_
  refine ma_iload dX1_fourToOne_66 rfl ?_
  refine ma_iload dX1_fourToOne_68 rfl ?_
  refine ma_cV [_, _, _, _] dX1_fourToOne_70 wX1_putBeyond lX1_161 iX1_putBeyond sX1_putBeyond rfl (by first | exact vh_57 | exact vh_58 | exact (vh_n (by omega)).trans (by assumption)) (Nat.le_of_ble_eq_true rfl) ?_
  refine c_X1_putBeyond hm (by constructor <;> omega) (by omega) (by decide) (by decide) ?_
  refine ma_iincK (1) dX1_fourToOne_73 rfl (by decide) rfl (by decide) ?_
  refine ma_goto 38 dX1_fourToOne_76 rfl ?_
  show ma_J none mX1_fourToOne (d + 2) 0 0 38 [some (vr 54), some (vr b), some (vi k), some (vr c), some (vi (k / 4)), some (vi 1), some (vi (sty S t)), some (vi 1)] [] _ nx Q
  refine ma_iload dX1_fourToOne_38 rfl ?_
  refine ma_iconst dX1_fourToOne_40 ?_
  refine ma_rcmp_ge 79 dX1_fourToOne_41 rfl (by decide) (by decide) (fun c41 => absurd c41 (by decide)) (fun c41 => ?_)
  refine ma_iload dX1_fourToOne_44 rfl ?_
  refine ma_iload dX1_fourToOne_46 rfl ?_
  refine ma_rcmp_eq 73 dX1_fourToOne_48 rfl (by decide) (by decide) (fun c48 => ?_) (fun c48 => absurd c48 (by decide))
  refine ma_iincK (2) dX1_fourToOne_73 rfl (by decide) rfl (by decide) ?_
  refine ma_goto 38 dX1_fourToOne_76 rfl ?_
  show ma_J none mX1_fourToOne (d + 2) 0 0 38 [some (vr 54), some (vr b), some (vi k), some (vr c), some (vi (k / 4)), some (vi 1), some (vi (sty S t)), some (vi 2)] [] _ nx Q
  refine ma_iload dX1_fourToOne_38 rfl ?_
  refine ma_iconst dX1_fourToOne_40 ?_
  refine ma_rcmp_ge 79 dX1_fourToOne_41 rfl (by decide) (by decide) (fun c41 => absurd c41 (by decide)) (fun c41 => ?_)
  refine ma_iload dX1_fourToOne_44 rfl ?_
  refine ma_iload dX1_fourToOne_46 rfl ?_
  refine ma_rcmp_eq 73 dX1_fourToOne_48 rfl (by decide) (by decide) (fun c48 => absurd c48 (by decide)) (fun c48 => ?_)
  refine ma_aload_n dX1_fourToOne_51 rfl ?_
  refine ma_aload_n dX1_fourToOne_52 rfl ?_
  refine ma_getf dX1_fourToOne_53 fX1_92 (by first | exact vh_57 | exact vh_58 | exact (vh_n (by omega)).trans (by assumption)) (by rfl) ?_
  refine ma_iconst dX1_fourToOne_56 ?_
  refine ma_iload dX1_fourToOne_57 rfl ?_
  refine ma_imul dX1_fourToOne_59 ?_
  refine ma_iload dX1_fourToOne_60 rfl ?_
  refine ma_iadd dX1_fourToOne_62 ?_
  refine ma_iald dX1_fourToOne_63 (by first | exact vh_57 | exact vh_58 | exact (vh_n (by omega)).trans (by assumption)) (by omega) (by omega) (by omega) ?_
  refine ma_iload dX1_fourToOne_64 rfl ?_
  refine ma_iload dX1_fourToOne_66 rfl ?_
  refine ma_iload dX1_fourToOne_68 rfl ?_
  refine ma_cV [_, _, _, _] dX1_fourToOne_70 wX1_putBeyond lX1_161 iX1_putBeyond sX1_putBeyond rfl (by first | exact vh_57 | exact vh_58 | exact (vh_n (by omega)).trans (by assumption)) (Nat.le_of_ble_eq_true rfl) ?_
  refine c_X1_putBeyond hm (by constructor <;> omega) (by omega) (by decide) (by decide) ?_
  refine ma_iincK (3) dX1_fourToOne_73 rfl (by decide) rfl (by decide) ?_
  refine ma_goto 38 dX1_fourToOne_76 rfl ?_
  show ma_J none mX1_fourToOne (d + 2) 0 0 38 [some (vr 54), some (vr b), some (vi k), some (vr c), some (vi (k / 4)), some (vi 1), some (vi (sty S t)), some (vi 3)] [] _ nx Q
  refine ma_iload dX1_fourToOne_38 rfl ?_
  refine ma_iconst dX1_fourToOne_40 ?_
  refine ma_rcmp_ge 79 dX1_fourToOne_41 rfl (by decide) (by decide) (fun c41 => absurd c41 (by decide)) (fun c41 => ?_)
  refine ma_iload dX1_fourToOne_44 rfl ?_
  refine ma_iload dX1_fourToOne_46 rfl ?_
  refine ma_rcmp_eq 73 dX1_fourToOne_48 rfl (by decide) (by decide) (fun c48 => absurd c48 (by decide)) (fun c48 => ?_)
  refine ma_aload_n dX1_fourToOne_51 rfl ?_
  refine ma_aload_n dX1_fourToOne_52 rfl ?_
  refine ma_getf dX1_fourToOne_53 fX1_92 (by first | exact vh_57 | exact vh_58 | exact (vh_n (by omega)).trans (by assumption)) (by rfl) ?_
  refine ma_iconst dX1_fourToOne_56 ?_
  refine ma_iload dX1_fourToOne_57 rfl ?_
  refine ma_imul dX1_fourToOne_59 ?_
  refine ma_iload dX1_fourToOne_60 rfl ?_
  refine ma_iadd dX1_fourToOne_62 ?_
  refine ma_iald dX1_fourToOne_63 (by first | exact vh_57 | exact vh_58 | exact (vh_n (by omega)).trans (by assumption)) (by omega) (by omega) (by omega) ?_
  refine ma_iload dX1_fourToOne_64 rfl ?_
  refine ma_iload dX1_fourToOne_66 rfl ?_
  refine ma_iload dX1_fourToOne_68 rfl ?_
  refine ma_cV [_, _, _, _] dX1_fourToOne_70 wX1_putBeyond lX1_161 iX1_putBeyond sX1_putBeyond rfl (by first | exact vh_57 | exact vh_58 | exact (vh_n (by omega)).trans (by assumption)) (Nat.le_of_ble_eq_true rfl) ?_
  refine c_X1_putBeyond hm (by constructor <;> omega) (by omega) (by decide) (by decide) ?_
  refine ma_iincK (4) dX1_fourToOne_73 rfl (by decide) rfl (by decide) ?_
  refine ma_goto 38 dX1_fourToOne_76 rfl ?_
  show ma_J none mX1_fourToOne (d + 2) 0 0 38 [some (vr 54), some (vr b), some (vi k), some (vr c), some (vi (k / 4)), some (vi 1), some (vi (sty S t)), some (vi 4)] [] _ nx Q
  refine ma_iload dX1_fourToOne_38 rfl ?_
  refine ma_iconst dX1_fourToOne_40 ?_
  refine ma_rcmp_ge 79 dX1_fourToOne_41 rfl (by decide) (by decide) (fun c41 => ?_) (fun c41 => absurd c41 (by decide))
  refine ma_aload_n dX1_fourToOne_79 rfl ?_
  refine ma_aload_n dX1_fourToOne_80 rfl ?_
  refine ma_aload_n dX1_fourToOne_81 rfl ?_
  refine ma_cV [_, _] dX1_fourToOne_82 wX1_carry lX1_165 iX1_carry sX1_carry rfl (by first | exact vh_57 | exact vh_58 | exact (vh_n (by omega)).trans (by assumption)) (Nat.le_of_ble_eq_true rfl) ?_
  refine c_X1_carry ((vh_n (by omega)).trans hm) ((vh_n (by omega)).trans hb) ((vh_n (by omega)).trans hg) vh_57 vh_58 ((vh_n (by omega)).trans hc) ne.2.2 n2 n3 ne.1 ne.2.1 n6 hG (uf_r (uf_r (uf_r (uf_r (fun j j0 j1 => by rw [(hL j j0 j1).1]; exact lo_in _ (by omega) j j0 j1) (by constructor <;> omega)) (by constructor <;> omega)) (by constructor <;> omega)) (by constructor <;> omega)) (uf_r (uf_r (uf_r (uf_r (fun j j0 j1 => by have := (hL j j0 j1).2; omega) (by decide)) a0) a2) a3) ((vh_n (by omega)).trans he) ?_
  exact ma_vret dX1_fourToOne_85 rfl (K H T hL)
set_option maxHeartbeats 2000000 in
theorem c_X1_four2 {h : ma_H} {b g c e nx d : Nat} {t u k : Int} {G C H T : Int → Int} {Q : Option ma_V → ma_H → Nat → Prop} {S : Int → Prop} (hm : h 54 = co 1 [vr 44, vr 39, vr 55, vr 57, vr 58]) (hb : h b = co 8 [vi t, vr g]) (hg : h g = ci 32 G) (hc : h c = co 8 [vi u, vr e]) (he : h e = ci 32 C) (nb : b ≠ 57 ∧ b ≠ 58) (ng : g ≠ 57 ∧ g ≠ 58) (nc : c ≠ 57 ∧ c ≠ 58) (ne : e ≠ 57 ∧ e ≠ 58 ∧ e ≠ 54) (n2 : e ≠ b) (n3 : e ≠ g) (n6 : e ≠ c) (hG : VG t G) (hk : 0 ≤ k ∧ k < 4 * t) (hf : k % 4 = 2) (hgl : ∀ x, 0 ≤ x → x < 4 → x ≠ k % 4 → 0 ≤ G (4 * (k / 4) + x) ∧ G (4 * (k / 4) + x) < 256 ∧ 0 ≤ G (4 * (k / 4) + x) % 32 ∧ G (4 * (k / 4) + x) % 32 < 24 ∧ G (4 * (k / 4) + x) / 32 < t) (hS : ∀ i, 0 ≤ i → i < 8 → (NS G k 4 i ∨ i = k / 4 ↔ S i)) (hs7 : sty S t < 8) (K : ∀ H T, (∀ j, 0 ≤ j → j < 4 * t → H j = lo S j ∧ T j = 0) → Q none (ma_up (vh h (uf (uf (uf (uf H (k) (sty S t)) (4 * (G (4 * (k / 4) + 0) / 32) + im (G (4 * (k / 4) + 0) % 32) 2) (sty S t)) (4 * (G (4 * (k / 4) + 1) / 32) + im (G (4 * (k / 4) + 1) % 32) 2) (sty S t)) (4 * (G (4 * (k / 4) + 3) / 32) + im (G (4 * (k / 4) + 3) % 32) 2) (sty S t)) (uf (uf (uf (uf T (k) (0)) (4 * (G (4 * (k / 4) + 0) / 32) + im (G (4 * (k / 4) + 0) % 32) 2) (af (sx 0 2) (iv (G (4 * (k / 4) + 0) % 32)))) (4 * (G (4 * (k / 4) + 1) / 32) + im (G (4 * (k / 4) + 1) % 32) 2) (af (sx 1 2) (iv (G (4 * (k / 4) + 1) % 32)))) (4 * (G (4 * (k / 4) + 3) / 32) + im (G (4 * (k / 4) + 3) % 32) 2) (af (sx 3 2) (iv (G (4 * (k / 4) + 3) % 32))))) e (ci 32 (cy G (uf (uf (uf (uf H (k) (sty S t)) (4 * (G (4 * (k / 4) + 0) / 32) + im (G (4 * (k / 4) + 0) % 32) 2) (sty S t)) (4 * (G (4 * (k / 4) + 1) / 32) + im (G (4 * (k / 4) + 1) % 32) 2) (sty S t)) (4 * (G (4 * (k / 4) + 3) / 32) + im (G (4 * (k / 4) + 3) % 32) 2) (sty S t)) (uf (uf (uf (uf T (k) (0)) (4 * (G (4 * (k / 4) + 0) / 32) + im (G (4 * (k / 4) + 0) % 32) 2) (af (sx 0 2) (iv (G (4 * (k / 4) + 0) % 32)))) (4 * (G (4 * (k / 4) + 1) / 32) + im (G (4 * (k / 4) + 1) % 32) 2) (af (sx 1 2) (iv (G (4 * (k / 4) + 1) % 32)))) (4 * (G (4 * (k / 4) + 3) / 32) + im (G (4 * (k / 4) + 3) % 32) 2) (af (sx 3 2) (iv (G (4 * (k / 4) + 3) % 32)))) C (4 * t).toNat))) nx) : ma_Ct mX1_fourToOne (d + 2) 0 0 [vr 54, vr b, vi k, vr c] (vh h H T) nx Q := by
  have ht := hG.1
  have g0 := hgl 0 (by decide) (by decide) (by omega)
  have i0 := iv_in g0.2.2.1 g0.2.2.2.1
  have b0 := im_in g0.2.2.1 g0.2.2.2.1 (show (0 : Int) ≤ 2 by decide) (by decide)
  have a0 := af_in (sx_ok (i := 0) (j := 2) (by decide) (by decide) (by decide) (by decide)).1 (sx_ok (i := 0) (j := 2) (by decide) (by decide) (by decide) (by decide)).2.1 i0.1 i0.2
  have g1 := hgl 1 (by decide) (by decide) (by omega)
  have i1 := iv_in g1.2.2.1 g1.2.2.2.1
  have b1 := im_in g1.2.2.1 g1.2.2.2.1 (show (0 : Int) ≤ 2 by decide) (by decide)
  have a1 := af_in (sx_ok (i := 1) (j := 2) (by decide) (by decide) (by decide) (by decide)).1 (sx_ok (i := 1) (j := 2) (by decide) (by decide) (by decide) (by decide)).2.1 i1.1 i1.2
  have g3 := hgl 3 (by decide) (by decide) (by omega)
  have i3 := iv_in g3.2.2.1 g3.2.2.2.1
  have b3 := im_in g3.2.2.1 g3.2.2.2.1 (show (0 : Int) ≤ 2 by decide) (by decide)
  have a3 := af_in (sx_ok (i := 3) (j := 2) (by decide) (by decide) (by decide) (by decide)).1 (sx_ok (i := 3) (j := 2) (by decide) (by decide) (by decide) (by decide)).2.1 i3.1 i3.2
  refine ma_Ct.of (by decide +kernel) (Nat.le_of_ble_eq_true rfl) ?_
  refine ma_iload_n dX1_fourToOne_0 rfl ?_
  refine ma_iconst dX1_fourToOne_1 ?_
  refine ma_kshr 4 dX1_fourToOne_2 (by decide) (by constructor <;> omega) ?_
  refine ma_istoreN dX1_fourToOne_3 (by decide) rfl ?_
  refine ma_iload_n dX1_fourToOne_5 rfl ?_
  refine ma_iconst dX1_fourToOne_6 ?_
  refine ma_kand 2 4 dX1_fourToOne_7 (by decide) (by decide +kernel) (by decide) ?_
  rw [hf]
  refine ma_istoreN dX1_fourToOne_8 (by decide) rfl ?_
  refine ma_aload_n dX1_fourToOne_10 rfl ?_
  refine ma_aload_n dX1_fourToOne_11 rfl ?_
  refine ma_aload_n dX1_fourToOne_12 rfl ?_
  refine ma_iload_n dX1_fourToOne_13 rfl ?_
  refine ma_cS [_, _] dX1_fourToOne_14 wX1_neighbours lX1_123 tX1_neighbours (Nat.le_of_ble_eq_true rfl) ?_
  refine c_X1_neighbours ((vh_n (by omega)).trans hb) ((vh_n (by omega)).trans hg) hG (by constructor <;> omega) (fun m hM => ?_)
  refine ma_iconst dX1_fourToOne_17 ?_
  refine ma_iload dX1_fourToOne_18 rfl ?_
  refine ma_ishl dX1_fourToOne_20 ?_
  refine ma_ior dX1_fourToOne_21 ?_
  refine ma_cV [_, _] dX1_fourToOne_22 wX1_layOut lX1_154 iX1_layOut sX1_layOut rfl (by first | exact vh_57 | exact vh_58 | exact (vh_n (by omega)).trans (by assumption)) (Nat.le_of_ble_eq_true rfl) ?_
  refine c_X1_layOut (S := S) hm hb nb (by omega) (mk_iff (mk_or hM (by omega) (by omega)) (fun i i0 i1 => hS i i0 i1)) (fun H T hL => ?_)
  have hst := sty_in S (show 0 ≤ t by omega)
  refine ma_istoreN dX1_fourToOne_25 (by decide) rfl ?_
  refine ma_aload_n dX1_fourToOne_27 rfl ?_
  refine ma_iload_n dX1_fourToOne_28 rfl ?_
  refine ma_iload dX1_fourToOne_29 rfl ?_
  refine ma_iconst dX1_fourToOne_31 ?_
  refine ma_cV [_, _, _] dX1_fourToOne_32 wX1_put lX1_157 iX1_put sX1_put rfl (by first | exact vh_57 | exact vh_58 | exact (vh_n (by omega)).trans (by assumption)) (Nat.le_of_ble_eq_true rfl) ?_
  refine c_X1_put hm (by constructor <;> omega) ?_
  refine ma_iconst dX1_fourToOne_35 ?_
  refine ma_istoreN dX1_fourToOne_36 (by decide) rfl ?_
  show ma_J none mX1_fourToOne (d + 2) 0 0 38 [some (vr 54), some (vr b), some (vi k), some (vr c), some (vi (k / 4)), some (vi 2), some (vi (sty S t)), some (vi 0)] [] _ nx Q
  refine ma_iload dX1_fourToOne_38 rfl ?_
  refine ma_iconst dX1_fourToOne_40 ?_
  refine ma_rcmp_ge 79 dX1_fourToOne_41 rfl (by decide) (by decide) (fun c41 => absurd c41 (by decide)) (fun c41 => ?_)
  refine ma_iload dX1_fourToOne_44 rfl ?_
  refine ma_iload dX1_fourToOne_46 rfl ?_
  refine ma_rcmp_eq 73 dX1_fourToOne_48 rfl (by decide) (by decide) (fun c48 => absurd c48 (by decide)) (fun c48 => ?_)
  refine ma_aload_n dX1_fourToOne_51 rfl ?_
  refine ma_aload_n dX1_fourToOne_52 rfl ?_
  refine ma_getf dX1_fourToOne_53 fX1_92 (by first | exact vh_57 | exact vh_58 | exact (vh_n (by omega)).trans (by assumption)) (by rfl) ?_
  refine ma_iconst dX1_fourToOne_56 ?_
  refine ma_iload dX1_fourToOne_57 rfl ?_
  refine ma_imul dX1_fourToOne_59 ?_
  refine ma_iload dX1_fourToOne_60 rfl ?_
  refine ma_iadd dX1_fourToOne_62 ?_
  refine ma_iald dX1_fourToOne_63 (by first | exact vh_57 | exact vh_58 | exact (vh_n (by omega)).trans (by assumption)) (by omega) (by omega) (by omega) ?_
  refine ma_iload dX1_fourToOne_64 rfl ?_
  refine ma_iload dX1_fourToOne_66 rfl ?_
  refine ma_iload dX1_fourToOne_68 rfl ?_
  refine ma_cV [_, _, _, _] dX1_fourToOne_70 wX1_putBeyond lX1_161 iX1_putBeyond sX1_putBeyond rfl (by first | exact vh_57 | exact vh_58 | exact (vh_n (by omega)).trans (by assumption)) (Nat.le_of_ble_eq_true rfl) ?_
  refine c_X1_putBeyond hm (by constructor <;> omega) (by omega) (by decide) (by decide) ?_
  refine ma_iincK (1) dX1_fourToOne_73 rfl (by decide) rfl (by decide) ?_
  refine ma_goto 38 dX1_fourToOne_76 rfl ?_
  show ma_J none mX1_fourToOne (d + 2) 0 0 38 [some (vr 54), some (vr b), some (vi k), some (vr c), some (vi (k / 4)), some (vi 2), some (vi (sty S t)), some (vi 1)] [] _ nx Q
  refine ma_iload dX1_fourToOne_38 rfl ?_
  refine ma_iconst dX1_fourToOne_40 ?_
  refine ma_rcmp_ge 79 dX1_fourToOne_41 rfl (by decide) (by decide) (fun c41 => absurd c41 (by decide)) (fun c41 => ?_)
  refine ma_iload dX1_fourToOne_44 rfl ?_
  refine ma_iload dX1_fourToOne_46 rfl ?_
  refine ma_rcmp_eq 73 dX1_fourToOne_48 rfl (by decide) (by decide) (fun c48 => absurd c48 (by decide)) (fun c48 => ?_)
  refine ma_aload_n dX1_fourToOne_51 rfl ?_
  refine ma_aload_n dX1_fourToOne_52 rfl ?_
  refine ma_getf dX1_fourToOne_53 fX1_92 (by first | exact vh_57 | exact vh_58 | exact (vh_n (by omega)).trans (by assumption)) (by rfl) ?_
  refine ma_iconst dX1_fourToOne_56 ?_
  refine ma_iload dX1_fourToOne_57 rfl ?_
  refine ma_imul dX1_fourToOne_59 ?_
  refine ma_iload dX1_fourToOne_60 rfl ?_
  refine ma_iadd dX1_fourToOne_62 ?_
  refine ma_iald dX1_fourToOne_63 (by first | exact vh_57 | exact vh_58 | exact (vh_n (by omega)).trans (by assumption)) (by omega) (by omega) (by omega) ?_
  refine ma_iload dX1_fourToOne_64 rfl ?_
  refine ma_iload dX1_fourToOne_66 rfl ?_
  refine ma_iload dX1_fourToOne_68 rfl ?_
  refine ma_cV [_, _, _, _] dX1_fourToOne_70 wX1_putBeyond lX1_161 iX1_putBeyond sX1_putBeyond rfl (by first | exact vh_57 | exact vh_58 | exact (vh_n (by omega)).trans (by assumption)) (Nat.le_of_ble_eq_true rfl) ?_
  refine c_X1_putBeyond hm (by constructor <;> omega) (by omega) (by decide) (by decide) ?_
  refine ma_iincK (2) dX1_fourToOne_73 rfl (by decide) rfl (by decide) ?_
  refine ma_goto 38 dX1_fourToOne_76 rfl ?_
  show ma_J none mX1_fourToOne (d + 2) 0 0 38 [some (vr 54), some (vr b), some (vi k), some (vr c), some (vi (k / 4)), some (vi 2), some (vi (sty S t)), some (vi 2)] [] _ nx Q
  refine ma_iload dX1_fourToOne_38 rfl ?_
  refine ma_iconst dX1_fourToOne_40 ?_
  refine ma_rcmp_ge 79 dX1_fourToOne_41 rfl (by decide) (by decide) (fun c41 => absurd c41 (by decide)) (fun c41 => ?_)
  refine ma_iload dX1_fourToOne_44 rfl ?_
  refine ma_iload dX1_fourToOne_46 rfl ?_
  refine ma_rcmp_eq 73 dX1_fourToOne_48 rfl (by decide) (by decide) (fun c48 => ?_) (fun c48 => absurd c48 (by decide))
  refine ma_iincK (3) dX1_fourToOne_73 rfl (by decide) rfl (by decide) ?_
  refine ma_goto 38 dX1_fourToOne_76 rfl ?_
  show ma_J none mX1_fourToOne (d + 2) 0 0 38 [some (vr 54), some (vr b), some (vi k), some (vr c), some (vi (k / 4)), some (vi 2), some (vi (sty S t)), some (vi 3)] [] _ nx Q
  refine ma_iload dX1_fourToOne_38 rfl ?_
  refine ma_iconst dX1_fourToOne_40 ?_
  refine ma_rcmp_ge 79 dX1_fourToOne_41 rfl (by decide) (by decide) (fun c41 => absurd c41 (by decide)) (fun c41 => ?_)
  refine ma_iload dX1_fourToOne_44 rfl ?_
  refine ma_iload dX1_fourToOne_46 rfl ?_
  refine ma_rcmp_eq 73 dX1_fourToOne_48 rfl (by decide) (by decide) (fun c48 => absurd c48 (by decide)) (fun c48 => ?_)
  refine ma_aload_n dX1_fourToOne_51 rfl ?_
  refine ma_aload_n dX1_fourToOne_52 rfl ?_
  refine ma_getf dX1_fourToOne_53 fX1_92 (by first | exact vh_57 | exact vh_58 | exact (vh_n (by omega)).trans (by assumption)) (by rfl) ?_
  refine ma_iconst dX1_fourToOne_56 ?_
  refine ma_iload dX1_fourToOne_57 rfl ?_
  refine ma_imul dX1_fourToOne_59 ?_
  refine ma_iload dX1_fourToOne_60 rfl ?_
  refine ma_iadd dX1_fourToOne_62 ?_
  refine ma_iald dX1_fourToOne_63 (by first | exact vh_57 | exact vh_58 | exact (vh_n (by omega)).trans (by assumption)) (by omega) (by omega) (by omega) ?_
  refine ma_iload dX1_fourToOne_64 rfl ?_
  refine ma_iload dX1_fourToOne_66 rfl ?_
  refine ma_iload dX1_fourToOne_68 rfl ?_
  refine ma_cV [_, _, _, _] dX1_fourToOne_70 wX1_putBeyond lX1_161 iX1_putBeyond sX1_putBeyond rfl (by first | exact vh_57 | exact vh_58 | exact (vh_n (by omega)).trans (by assumption)) (Nat.le_of_ble_eq_true rfl) ?_
  refine c_X1_putBeyond hm (by constructor <;> omega) (by omega) (by decide) (by decide) ?_
  refine ma_iincK (4) dX1_fourToOne_73 rfl (by decide) rfl (by decide) ?_
  refine ma_goto 38 dX1_fourToOne_76 rfl ?_
  show ma_J none mX1_fourToOne (d + 2) 0 0 38 [some (vr 54), some (vr b), some (vi k), some (vr c), some (vi (k / 4)), some (vi 2), some (vi (sty S t)), some (vi 4)] [] _ nx Q
  refine ma_iload dX1_fourToOne_38 rfl ?_
  refine ma_iconst dX1_fourToOne_40 ?_
  refine ma_rcmp_ge 79 dX1_fourToOne_41 rfl (by decide) (by decide) (fun c41 => ?_) (fun c41 => absurd c41 (by decide))
  refine ma_aload_n dX1_fourToOne_79 rfl ?_
  refine ma_aload_n dX1_fourToOne_80 rfl ?_
  refine ma_aload_n dX1_fourToOne_81 rfl ?_
  refine ma_cV [_, _] dX1_fourToOne_82 wX1_carry lX1_165 iX1_carry sX1_carry rfl (by first | exact vh_57 | exact vh_58 | exact (vh_n (by omega)).trans (by assumption)) (Nat.le_of_ble_eq_true rfl) ?_
  refine c_X1_carry ((vh_n (by omega)).trans hm) ((vh_n (by omega)).trans hb) ((vh_n (by omega)).trans hg) vh_57 vh_58 ((vh_n (by omega)).trans hc) ne.2.2 n2 n3 ne.1 ne.2.1 n6 hG (uf_r (uf_r (uf_r (uf_r (fun j j0 j1 => by rw [(hL j j0 j1).1]; exact lo_in _ (by omega) j j0 j1) (by constructor <;> omega)) (by constructor <;> omega)) (by constructor <;> omega)) (by constructor <;> omega)) (uf_r (uf_r (uf_r (uf_r (fun j j0 j1 => by have := (hL j j0 j1).2; omega) (by decide)) a0) a1) a3) ((vh_n (by omega)).trans he) ?_
  exact ma_vret dX1_fourToOne_85 rfl (K H T hL)
set_option maxHeartbeats 2000000 in
theorem c_X1_four3 {h : ma_H} {b g c e nx d : Nat} {t u k : Int} {G C H T : Int → Int} {Q : Option ma_V → ma_H → Nat → Prop} {S : Int → Prop} (hm : h 54 = co 1 [vr 44, vr 39, vr 55, vr 57, vr 58]) (hb : h b = co 8 [vi t, vr g]) (hg : h g = ci 32 G) (hc : h c = co 8 [vi u, vr e]) (he : h e = ci 32 C) (nb : b ≠ 57 ∧ b ≠ 58) (ng : g ≠ 57 ∧ g ≠ 58) (nc : c ≠ 57 ∧ c ≠ 58) (ne : e ≠ 57 ∧ e ≠ 58 ∧ e ≠ 54) (n2 : e ≠ b) (n3 : e ≠ g) (n6 : e ≠ c) (hG : VG t G) (hk : 0 ≤ k ∧ k < 4 * t) (hf : k % 4 = 3) (hgl : ∀ x, 0 ≤ x → x < 4 → x ≠ k % 4 → 0 ≤ G (4 * (k / 4) + x) ∧ G (4 * (k / 4) + x) < 256 ∧ 0 ≤ G (4 * (k / 4) + x) % 32 ∧ G (4 * (k / 4) + x) % 32 < 24 ∧ G (4 * (k / 4) + x) / 32 < t) (hS : ∀ i, 0 ≤ i → i < 8 → (NS G k 4 i ∨ i = k / 4 ↔ S i)) (hs7 : sty S t < 8) (K : ∀ H T, (∀ j, 0 ≤ j → j < 4 * t → H j = lo S j ∧ T j = 0) → Q none (ma_up (vh h (uf (uf (uf (uf H (k) (sty S t)) (4 * (G (4 * (k / 4) + 0) / 32) + im (G (4 * (k / 4) + 0) % 32) 3) (sty S t)) (4 * (G (4 * (k / 4) + 1) / 32) + im (G (4 * (k / 4) + 1) % 32) 3) (sty S t)) (4 * (G (4 * (k / 4) + 2) / 32) + im (G (4 * (k / 4) + 2) % 32) 3) (sty S t)) (uf (uf (uf (uf T (k) (0)) (4 * (G (4 * (k / 4) + 0) / 32) + im (G (4 * (k / 4) + 0) % 32) 3) (af (sx 0 3) (iv (G (4 * (k / 4) + 0) % 32)))) (4 * (G (4 * (k / 4) + 1) / 32) + im (G (4 * (k / 4) + 1) % 32) 3) (af (sx 1 3) (iv (G (4 * (k / 4) + 1) % 32)))) (4 * (G (4 * (k / 4) + 2) / 32) + im (G (4 * (k / 4) + 2) % 32) 3) (af (sx 2 3) (iv (G (4 * (k / 4) + 2) % 32))))) e (ci 32 (cy G (uf (uf (uf (uf H (k) (sty S t)) (4 * (G (4 * (k / 4) + 0) / 32) + im (G (4 * (k / 4) + 0) % 32) 3) (sty S t)) (4 * (G (4 * (k / 4) + 1) / 32) + im (G (4 * (k / 4) + 1) % 32) 3) (sty S t)) (4 * (G (4 * (k / 4) + 2) / 32) + im (G (4 * (k / 4) + 2) % 32) 3) (sty S t)) (uf (uf (uf (uf T (k) (0)) (4 * (G (4 * (k / 4) + 0) / 32) + im (G (4 * (k / 4) + 0) % 32) 3) (af (sx 0 3) (iv (G (4 * (k / 4) + 0) % 32)))) (4 * (G (4 * (k / 4) + 1) / 32) + im (G (4 * (k / 4) + 1) % 32) 3) (af (sx 1 3) (iv (G (4 * (k / 4) + 1) % 32)))) (4 * (G (4 * (k / 4) + 2) / 32) + im (G (4 * (k / 4) + 2) % 32) 3) (af (sx 2 3) (iv (G (4 * (k / 4) + 2) % 32)))) C (4 * t).toNat))) nx) : ma_Ct mX1_fourToOne (d + 2) 0 0 [vr 54, vr b, vi k, vr c] (vh h H T) nx Q := by
  have ht := hG.1
  have g0 := hgl 0 (by decide) (by decide) (by omega)
  have i0 := iv_in g0.2.2.1 g0.2.2.2.1
  have b0 := im_in g0.2.2.1 g0.2.2.2.1 (show (0 : Int) ≤ 3 by decide) (by decide)
  have a0 := af_in (sx_ok (i := 0) (j := 3) (by decide) (by decide) (by decide) (by decide)).1 (sx_ok (i := 0) (j := 3) (by decide) (by decide) (by decide) (by decide)).2.1 i0.1 i0.2
  have g1 := hgl 1 (by decide) (by decide) (by omega)
  have i1 := iv_in g1.2.2.1 g1.2.2.2.1
  have b1 := im_in g1.2.2.1 g1.2.2.2.1 (show (0 : Int) ≤ 3 by decide) (by decide)
  have a1 := af_in (sx_ok (i := 1) (j := 3) (by decide) (by decide) (by decide) (by decide)).1 (sx_ok (i := 1) (j := 3) (by decide) (by decide) (by decide) (by decide)).2.1 i1.1 i1.2
  have g2 := hgl 2 (by decide) (by decide) (by omega)
  have i2 := iv_in g2.2.2.1 g2.2.2.2.1
  have b2 := im_in g2.2.2.1 g2.2.2.2.1 (show (0 : Int) ≤ 3 by decide) (by decide)
  have a2 := af_in (sx_ok (i := 2) (j := 3) (by decide) (by decide) (by decide) (by decide)).1 (sx_ok (i := 2) (j := 3) (by decide) (by decide) (by decide) (by decide)).2.1 i2.1 i2.2
  refine ma_Ct.of (by decide +kernel) (Nat.le_of_ble_eq_true rfl) ?_
  refine ma_iload_n dX1_fourToOne_0 rfl ?_
  refine ma_iconst dX1_fourToOne_1 ?_
  refine ma_kshr 4 dX1_fourToOne_2 (by decide) (by constructor <;> omega) ?_
  refine ma_istoreN dX1_fourToOne_3 (by decide) rfl ?_
  refine ma_iload_n dX1_fourToOne_5 rfl ?_
  refine ma_iconst dX1_fourToOne_6 ?_
  refine ma_kand 2 4 dX1_fourToOne_7 (by decide) (by decide +kernel) (by decide) ?_
  rw [hf]
  refine ma_istoreN dX1_fourToOne_8 (by decide) rfl ?_
  refine ma_aload_n dX1_fourToOne_10 rfl ?_
  refine ma_aload_n dX1_fourToOne_11 rfl ?_
  refine ma_aload_n dX1_fourToOne_12 rfl ?_
  refine ma_iload_n dX1_fourToOne_13 rfl ?_
  refine ma_cS [_, _] dX1_fourToOne_14 wX1_neighbours lX1_123 tX1_neighbours (Nat.le_of_ble_eq_true rfl) ?_
  refine c_X1_neighbours ((vh_n (by omega)).trans hb) ((vh_n (by omega)).trans hg) hG (by constructor <;> omega) (fun m hM => ?_)
  refine ma_iconst dX1_fourToOne_17 ?_
  refine ma_iload dX1_fourToOne_18 rfl ?_
  refine ma_ishl dX1_fourToOne_20 ?_
  refine ma_ior dX1_fourToOne_21 ?_
  refine ma_cV [_, _] dX1_fourToOne_22 wX1_layOut lX1_154 iX1_layOut sX1_layOut rfl (by first | exact vh_57 | exact vh_58 | exact (vh_n (by omega)).trans (by assumption)) (Nat.le_of_ble_eq_true rfl) ?_
  refine c_X1_layOut (S := S) hm hb nb (by omega) (mk_iff (mk_or hM (by omega) (by omega)) (fun i i0 i1 => hS i i0 i1)) (fun H T hL => ?_)
  have hst := sty_in S (show 0 ≤ t by omega)
  refine ma_istoreN dX1_fourToOne_25 (by decide) rfl ?_
  refine ma_aload_n dX1_fourToOne_27 rfl ?_
  refine ma_iload_n dX1_fourToOne_28 rfl ?_
  refine ma_iload dX1_fourToOne_29 rfl ?_
  refine ma_iconst dX1_fourToOne_31 ?_
  refine ma_cV [_, _, _] dX1_fourToOne_32 wX1_put lX1_157 iX1_put sX1_put rfl (by first | exact vh_57 | exact vh_58 | exact (vh_n (by omega)).trans (by assumption)) (Nat.le_of_ble_eq_true rfl) ?_
  refine c_X1_put hm (by constructor <;> omega) ?_
  refine ma_iconst dX1_fourToOne_35 ?_
  refine ma_istoreN dX1_fourToOne_36 (by decide) rfl ?_
  show ma_J none mX1_fourToOne (d + 2) 0 0 38 [some (vr 54), some (vr b), some (vi k), some (vr c), some (vi (k / 4)), some (vi 3), some (vi (sty S t)), some (vi 0)] [] _ nx Q
  refine ma_iload dX1_fourToOne_38 rfl ?_
  refine ma_iconst dX1_fourToOne_40 ?_
  refine ma_rcmp_ge 79 dX1_fourToOne_41 rfl (by decide) (by decide) (fun c41 => absurd c41 (by decide)) (fun c41 => ?_)
  refine ma_iload dX1_fourToOne_44 rfl ?_
  refine ma_iload dX1_fourToOne_46 rfl ?_
  refine ma_rcmp_eq 73 dX1_fourToOne_48 rfl (by decide) (by decide) (fun c48 => absurd c48 (by decide)) (fun c48 => ?_)
  refine ma_aload_n dX1_fourToOne_51 rfl ?_
  refine ma_aload_n dX1_fourToOne_52 rfl ?_
  refine ma_getf dX1_fourToOne_53 fX1_92 (by first | exact vh_57 | exact vh_58 | exact (vh_n (by omega)).trans (by assumption)) (by rfl) ?_
  refine ma_iconst dX1_fourToOne_56 ?_
  refine ma_iload dX1_fourToOne_57 rfl ?_
  refine ma_imul dX1_fourToOne_59 ?_
  refine ma_iload dX1_fourToOne_60 rfl ?_
  refine ma_iadd dX1_fourToOne_62 ?_
  refine ma_iald dX1_fourToOne_63 (by first | exact vh_57 | exact vh_58 | exact (vh_n (by omega)).trans (by assumption)) (by omega) (by omega) (by omega) ?_
  refine ma_iload dX1_fourToOne_64 rfl ?_
  refine ma_iload dX1_fourToOne_66 rfl ?_
  refine ma_iload dX1_fourToOne_68 rfl ?_
  refine ma_cV [_, _, _, _] dX1_fourToOne_70 wX1_putBeyond lX1_161 iX1_putBeyond sX1_putBeyond rfl (by first | exact vh_57 | exact vh_58 | exact (vh_n (by omega)).trans (by assumption)) (Nat.le_of_ble_eq_true rfl) ?_
  refine c_X1_putBeyond hm (by constructor <;> omega) (by omega) (by decide) (by decide) ?_
  refine ma_iincK (1) dX1_fourToOne_73 rfl (by decide) rfl (by decide) ?_
  refine ma_goto 38 dX1_fourToOne_76 rfl ?_
  show ma_J none mX1_fourToOne (d + 2) 0 0 38 [some (vr 54), some (vr b), some (vi k), some (vr c), some (vi (k / 4)), some (vi 3), some (vi (sty S t)), some (vi 1)] [] _ nx Q
  refine ma_iload dX1_fourToOne_38 rfl ?_
  refine ma_iconst dX1_fourToOne_40 ?_
  refine ma_rcmp_ge 79 dX1_fourToOne_41 rfl (by decide) (by decide) (fun c41 => absurd c41 (by decide)) (fun c41 => ?_)
  refine ma_iload dX1_fourToOne_44 rfl ?_
  refine ma_iload dX1_fourToOne_46 rfl ?_
  refine ma_rcmp_eq 73 dX1_fourToOne_48 rfl (by decide) (by decide) (fun c48 => absurd c48 (by decide)) (fun c48 => ?_)
  refine ma_aload_n dX1_fourToOne_51 rfl ?_
  refine ma_aload_n dX1_fourToOne_52 rfl ?_
  refine ma_getf dX1_fourToOne_53 fX1_92 (by first | exact vh_57 | exact vh_58 | exact (vh_n (by omega)).trans (by assumption)) (by rfl) ?_
  refine ma_iconst dX1_fourToOne_56 ?_
  refine ma_iload dX1_fourToOne_57 rfl ?_
  refine ma_imul dX1_fourToOne_59 ?_
  refine ma_iload dX1_fourToOne_60 rfl ?_
  refine ma_iadd dX1_fourToOne_62 ?_
  refine ma_iald dX1_fourToOne_63 (by first | exact vh_57 | exact vh_58 | exact (vh_n (by omega)).trans (by assumption)) (by omega) (by omega) (by omega) ?_
  refine ma_iload dX1_fourToOne_64 rfl ?_
  refine ma_iload dX1_fourToOne_66 rfl ?_
  refine ma_iload dX1_fourToOne_68 rfl ?_
  refine ma_cV [_, _, _, _] dX1_fourToOne_70 wX1_putBeyond lX1_161 iX1_putBeyond sX1_putBeyond rfl (by first | exact vh_57 | exact vh_58 | exact (vh_n (by omega)).trans (by assumption)) (Nat.le_of_ble_eq_true rfl) ?_
  refine c_X1_putBeyond hm (by constructor <;> omega) (by omega) (by decide) (by decide) ?_
  refine ma_iincK (2) dX1_fourToOne_73 rfl (by decide) rfl (by decide) ?_
  refine ma_goto 38 dX1_fourToOne_76 rfl ?_
  show ma_J none mX1_fourToOne (d + 2) 0 0 38 [some (vr 54), some (vr b), some (vi k), some (vr c), some (vi (k / 4)), some (vi 3), some (vi (sty S t)), some (vi 2)] [] _ nx Q
  refine ma_iload dX1_fourToOne_38 rfl ?_
  refine ma_iconst dX1_fourToOne_40 ?_
  refine ma_rcmp_ge 79 dX1_fourToOne_41 rfl (by decide) (by decide) (fun c41 => absurd c41 (by decide)) (fun c41 => ?_)
  refine ma_iload dX1_fourToOne_44 rfl ?_
  refine ma_iload dX1_fourToOne_46 rfl ?_
  refine ma_rcmp_eq 73 dX1_fourToOne_48 rfl (by decide) (by decide) (fun c48 => absurd c48 (by decide)) (fun c48 => ?_)
  refine ma_aload_n dX1_fourToOne_51 rfl ?_
  refine ma_aload_n dX1_fourToOne_52 rfl ?_
  refine ma_getf dX1_fourToOne_53 fX1_92 (by first | exact vh_57 | exact vh_58 | exact (vh_n (by omega)).trans (by assumption)) (by rfl) ?_
  refine ma_iconst dX1_fourToOne_56 ?_
  refine ma_iload dX1_fourToOne_57 rfl ?_
  refine ma_imul dX1_fourToOne_59 ?_
  refine ma_iload dX1_fourToOne_60 rfl ?_
  refine ma_iadd dX1_fourToOne_62 ?_
  refine ma_iald dX1_fourToOne_63 (by first | exact vh_57 | exact vh_58 | exact (vh_n (by omega)).trans (by assumption)) (by omega) (by omega) (by omega) ?_
  refine ma_iload dX1_fourToOne_64 rfl ?_
  refine ma_iload dX1_fourToOne_66 rfl ?_
  refine ma_iload dX1_fourToOne_68 rfl ?_
  refine ma_cV [_, _, _, _] dX1_fourToOne_70 wX1_putBeyond lX1_161 iX1_putBeyond sX1_putBeyond rfl (by first | exact vh_57 | exact vh_58 | exact (vh_n (by omega)).trans (by assumption)) (Nat.le_of_ble_eq_true rfl) ?_
  refine c_X1_putBeyond hm (by constructor <;> omega) (by omega) (by decide) (by decide) ?_
  refine ma_iincK (3) dX1_fourToOne_73 rfl (by decide) rfl (by decide) ?_
  refine ma_goto 38 dX1_fourToOne_76 rfl ?_
  show ma_J none mX1_fourToOne (d + 2) 0 0 38 [some (vr 54), some (vr b), some (vi k), some (vr c), some (vi (k / 4)), some (vi 3), some (vi (sty S t)), some (vi 3)] [] _ nx Q
  refine ma_iload dX1_fourToOne_38 rfl ?_
  refine ma_iconst dX1_fourToOne_40 ?_
  refine ma_rcmp_ge 79 dX1_fourToOne_41 rfl (by decide) (by decide) (fun c41 => absurd c41 (by decide)) (fun c41 => ?_)
  refine ma_iload dX1_fourToOne_44 rfl ?_
  refine ma_iload dX1_fourToOne_46 rfl ?_
  refine ma_rcmp_eq 73 dX1_fourToOne_48 rfl (by decide) (by decide) (fun c48 => ?_) (fun c48 => absurd c48 (by decide))
  refine ma_iincK (4) dX1_fourToOne_73 rfl (by decide) rfl (by decide) ?_
  refine ma_goto 38 dX1_fourToOne_76 rfl ?_
  show ma_J none mX1_fourToOne (d + 2) 0 0 38 [some (vr 54), some (vr b), some (vi k), some (vr c), some (vi (k / 4)), some (vi 3), some (vi (sty S t)), some (vi 4)] [] _ nx Q
  refine ma_iload dX1_fourToOne_38 rfl ?_
  refine ma_iconst dX1_fourToOne_40 ?_
  refine ma_rcmp_ge 79 dX1_fourToOne_41 rfl (by decide) (by decide) (fun c41 => ?_) (fun c41 => absurd c41 (by decide))
  refine ma_aload_n dX1_fourToOne_79 rfl ?_
  refine ma_aload_n dX1_fourToOne_80 rfl ?_
  refine ma_aload_n dX1_fourToOne_81 rfl ?_
  refine ma_cV [_, _] dX1_fourToOne_82 wX1_carry lX1_165 iX1_carry sX1_carry rfl (by first | exact vh_57 | exact vh_58 | exact (vh_n (by omega)).trans (by assumption)) (Nat.le_of_ble_eq_true rfl) ?_
  refine c_X1_carry ((vh_n (by omega)).trans hm) ((vh_n (by omega)).trans hb) ((vh_n (by omega)).trans hg) vh_57 vh_58 ((vh_n (by omega)).trans hc) ne.2.2 n2 n3 ne.1 ne.2.1 n6 hG (uf_r (uf_r (uf_r (uf_r (fun j j0 j1 => by rw [(hL j j0 j1).1]; exact lo_in _ (by omega) j j0 j1) (by constructor <;> omega)) (by constructor <;> omega)) (by constructor <;> omega)) (by constructor <;> omega)) (uf_r (uf_r (uf_r (uf_r (fun j j0 j1 => by have := (hL j j0 j1).2; omega) (by decide)) a0) a1) a2) ((vh_n (by omega)).trans he) ?_
  exact ma_vret dX1_fourToOne_85 rfl (K H T hL)
set_option maxHeartbeats 2000000 in
theorem c_X1_three01 {h : ma_H} {b g c e nx d : Nat} {t u k : Int} {G C H T : Int → Int} {Q : Option ma_V → ma_H → Nat → Prop} (hm : h 54 = co 1 [vr 44, vr 39, vr 55, vr 57, vr 58]) (hb : h b = co 8 [vi t, vr g]) (hg : h g = ci 32 G) (hc : h c = co 8 [vi u, vr e]) (he : h e = ci 32 C) (nb : b ≠ 57 ∧ b ≠ 58) (ng : g ≠ 57 ∧ g ≠ 58) (nc : c ≠ 57 ∧ c ≠ 58) (ne : e ≠ 57 ∧ e ≠ 58 ∧ e ≠ 54) (n2 : e ≠ b) (n3 : e ≠ g) (n6 : e ≠ c) (hG : VG t G) (hk : 0 ≤ k ∧ k < 16 * t) (hu : k / 4 % 4 = 0) (hv : k % 4 = 1) (hgl : ∀ x, 0 ≤ x → x < 4 → x ≠ k / 4 % 4 → x ≠ k % 4 → 0 ≤ G (4 * (k / 16) + x) ∧ G (4 * (k / 16) + x) < 256 ∧ 0 ≤ G (4 * (k / 16) + x) % 32 ∧ G (4 * (k / 16) + x) % 32 < 24 ∧ G (4 * (k / 16) + x) / 32 < t) (h3 : k / 16 ≠ G (4 * (k / 16) + 2) / 32 ∧ k / 16 ≠ G (4 * (k / 16) + 3) / 32 ∧ G (4 * (k / 16) + 2) / 32 ≠ G (4 * (k / 16) + 3) / 32) (K : ∀ H T, (∀ j, 0 ≤ j → j < 4 * t → H j = lo (fun i => (i = k / 16 ∨ i = G (4 * (k / 16) + 2) / 32) ∨ i = G (4 * (k / 16) + 3) / 32) j ∧ T j = 0) → Q none (ma_up (vh h (uf (uf (uf (uf (uf (uf H (4 * (k / 16) + 1) (t - 3)) (4 * (k / 16) + 0) (t - 3 + 1)) (4 * (G (4 * (k / 16) + 2) / 32) + im (G (4 * (k / 16) + 2) % 32) 1) (t - 3)) (4 * (G (4 * (k / 16) + 2) / 32) + im (G (4 * (k / 16) + 2) % 32) 0) (t - 3 + 1)) (4 * (G (4 * (k / 16) + 3) / 32) + im (G (4 * (k / 16) + 3) % 32) 1) (t - 3)) (4 * (G (4 * (k / 16) + 3) / 32) + im (G (4 * (k / 16) + 3) % 32) 0) (t - 3 + 1)) (uf (uf (uf (uf (uf (uf T (4 * (k / 16) + 1) (0)) (4 * (k / 16) + 0) (0)) (4 * (G (4 * (k / 16) + 2) / 32) + im (G (4 * (k / 16) + 2) % 32) 1) (af (sx 2 1) (iv (G (4 * (k / 16) + 2) % 32)))) (4 * (G (4 * (k / 16) + 2) / 32) + im (G (4 * (k / 16) + 2) % 32) 0) (af (sx 2 0) (iv (G (4 * (k / 16) + 2) % 32)))) (4 * (G (4 * (k / 16) + 3) / 32) + im (G (4 * (k / 16) + 3) % 32) 1) (af (sx 3 1) (iv (G (4 * (k / 16) + 3) % 32)))) (4 * (G (4 * (k / 16) + 3) / 32) + im (G (4 * (k / 16) + 3) % 32) 0) (af (sx 3 0) (iv (G (4 * (k / 16) + 3) % 32))))) e (ci 32 (fj (cy G (uf (uf (uf (uf (uf (uf H (4 * (k / 16) + 1) (t - 3)) (4 * (k / 16) + 0) (t - 3 + 1)) (4 * (G (4 * (k / 16) + 2) / 32) + im (G (4 * (k / 16) + 2) % 32) 1) (t - 3)) (4 * (G (4 * (k / 16) + 2) / 32) + im (G (4 * (k / 16) + 2) % 32) 0) (t - 3 + 1)) (4 * (G (4 * (k / 16) + 3) / 32) + im (G (4 * (k / 16) + 3) % 32) 1) (t - 3)) (4 * (G (4 * (k / 16) + 3) / 32) + im (G (4 * (k / 16) + 3) % 32) 0) (t - 3 + 1)) (uf (uf (uf (uf (uf (uf T (4 * (k / 16) + 1) (0)) (4 * (k / 16) + 0) (0)) (4 * (G (4 * (k / 16) + 2) / 32) + im (G (4 * (k / 16) + 2) % 32) 1) (af (sx 2 1) (iv (G (4 * (k / 16) + 2) % 32)))) (4 * (G (4 * (k / 16) + 2) / 32) + im (G (4 * (k / 16) + 2) % 32) 0) (af (sx 2 0) (iv (G (4 * (k / 16) + 2) % 32)))) (4 * (G (4 * (k / 16) + 3) / 32) + im (G (4 * (k / 16) + 3) % 32) 1) (af (sx 3 1) (iv (G (4 * (k / 16) + 3) % 32)))) (4 * (G (4 * (k / 16) + 3) / 32) + im (G (4 * (k / 16) + 3) % 32) 0) (af (sx 3 0) (iv (G (4 * (k / 16) + 3) % 32)))) C (4 * t).toNat) (t - 3) (t - 3 + 1) 1 0))) nx) : ma_Ct mX1_threeToTwo (d + 2) 0 0 [vr 54, vr b, vi k, vr c] (vh h H T) nx Q := by
  have ht := hG.1
  have g2 := hgl 2 (by decide) (by decide) (by omega) (by omega)
  have i2 := iv_in g2.2.2.1 g2.2.2.2.1
  have b2 := im_in g2.2.2.1 g2.2.2.2.1 (show (0 : Int) ≤ 1 by decide) (by decide)
  have d2 := im_in g2.2.2.1 g2.2.2.2.1 (show (0 : Int) ≤ 0 by decide) (by decide)
  have a2 := af_in (sx_ok (i := 2) (j := 1) (by decide) (by decide) (by decide) (by decide)).1 (sx_ok (i := 2) (j := 1) (by decide) (by decide) (by decide) (by decide)).2.1 i2.1 i2.2
  have c2 := af_in (sx_ok (i := 2) (j := 0) (by decide) (by decide) (by decide) (by decide)).1 (sx_ok (i := 2) (j := 0) (by decide) (by decide) (by decide) (by decide)).2.1 i2.1 i2.2
  have g3 := hgl 3 (by decide) (by decide) (by omega) (by omega)
  have i3 := iv_in g3.2.2.1 g3.2.2.2.1
  have b3 := im_in g3.2.2.1 g3.2.2.2.1 (show (0 : Int) ≤ 1 by decide) (by decide)
  have d3 := im_in g3.2.2.1 g3.2.2.2.1 (show (0 : Int) ≤ 0 by decide) (by decide)
  have a3 := af_in (sx_ok (i := 3) (j := 1) (by decide) (by decide) (by decide) (by decide)).1 (sx_ok (i := 3) (j := 1) (by decide) (by decide) (by decide) (by decide)).2.1 i3.1 i3.2
  have c3 := af_in (sx_ok (i := 3) (j := 0) (by decide) (by decide) (by decide) (by decide)).1 (sx_ok (i := 3) (j := 0) (by decide) (by decide) (by decide) (by decide)).2.1 i3.1 i3.2
  refine ma_Ct.of (by decide +kernel) (Nat.le_of_ble_eq_true rfl) ?_
  refine ma_iload_n dX1_threeToTwo_0 rfl ?_
  refine ma_iconst dX1_threeToTwo_1 ?_
  refine ma_kshr 16 dX1_threeToTwo_2 (by decide) (by constructor <;> omega) ?_
  refine ma_istoreN dX1_threeToTwo_3 (by decide) rfl ?_
  refine ma_iload_n dX1_threeToTwo_5 rfl ?_
  refine ma_iconst dX1_threeToTwo_6 ?_
  refine ma_kshr 4 dX1_threeToTwo_7 (by decide) (by constructor <;> omega) ?_
  refine ma_iconst dX1_threeToTwo_8 ?_
  refine ma_kand 2 4 dX1_threeToTwo_9 (by decide) (by decide +kernel) (by decide) ?_
  rw [hu]
  refine ma_istoreN dX1_threeToTwo_10 (by decide) rfl ?_
  refine ma_iload_n dX1_threeToTwo_12 rfl ?_
  refine ma_iconst dX1_threeToTwo_13 ?_
  refine ma_kand 2 4 dX1_threeToTwo_14 (by decide) (by decide +kernel) (by decide) ?_
  rw [hv]
  refine ma_istoreN dX1_threeToTwo_15 (by decide) rfl ?_
  refine ma_iconst dX1_threeToTwo_17 ?_
  refine ma_iload dX1_threeToTwo_18 rfl ?_
  refine ma_ishl dX1_threeToTwo_20 ?_
  refine ma_istoreN dX1_threeToTwo_21 (by decide) rfl ?_
  refine ma_iconst dX1_threeToTwo_23 ?_
  refine ma_istoreN dX1_threeToTwo_24 (by decide) rfl ?_
  show ma_J none mX1_threeToTwo (d + 2) 0 0 26 [some (vr 54), some (vr b), some (vi k), some (vr c), some (vi (k / 16)), some (vi 0), some (vi 1), _, some (vi 0), _] [] _ nx Q
  refine ma_iload dX1_threeToTwo_26 rfl ?_
  refine ma_iconst dX1_threeToTwo_28 ?_
  refine ma_rcmp_ge 73 dX1_threeToTwo_29 rfl (by decide) (by decide) (fun c29 => absurd c29 (by decide)) (fun c29 => ?_)
  refine ma_iload dX1_threeToTwo_32 rfl ?_
  refine ma_iload dX1_threeToTwo_34 rfl ?_
  refine ma_rcmp_eq 67 dX1_threeToTwo_36 rfl (by decide) (by decide) (fun c36 => ?_) (fun c36 => absurd c36 (by decide))
  refine ma_iincK (1) dX1_threeToTwo_67 rfl (by decide) rfl (by decide) ?_
  refine ma_goto 26 dX1_threeToTwo_70 rfl ?_
  show ma_J none mX1_threeToTwo (d + 2) 0 0 26 [some (vr 54), some (vr b), some (vi k), some (vr c), some (vi (k / 16)), some (vi 0), some (vi 1), _, some (vi 1), _] [] _ nx Q
  refine ma_iload dX1_threeToTwo_26 rfl ?_
  refine ma_iconst dX1_threeToTwo_28 ?_
  refine ma_rcmp_ge 73 dX1_threeToTwo_29 rfl (by decide) (by decide) (fun c29 => absurd c29 (by decide)) (fun c29 => ?_)
  refine ma_iload dX1_threeToTwo_32 rfl ?_
  refine ma_iload dX1_threeToTwo_34 rfl ?_
  refine ma_rcmp_eq 67 dX1_threeToTwo_36 rfl (by decide) (by decide) (fun c36 => absurd c36 (by decide)) (fun c36 => ?_)
  refine ma_iload dX1_threeToTwo_39 rfl ?_
  refine ma_iload dX1_threeToTwo_41 rfl ?_
  refine ma_rcmp_eq 67 dX1_threeToTwo_43 rfl (by decide) (by decide) (fun c43 => ?_) (fun c43 => absurd c43 (by decide))
  refine ma_iincK (2) dX1_threeToTwo_67 rfl (by decide) rfl (by decide) ?_
  refine ma_goto 26 dX1_threeToTwo_70 rfl ?_
  show ma_J none mX1_threeToTwo (d + 2) 0 0 26 [some (vr 54), some (vr b), some (vi k), some (vr c), some (vi (k / 16)), some (vi 0), some (vi 1), _, some (vi 2), _] [] _ nx Q
  refine ma_iload dX1_threeToTwo_26 rfl ?_
  refine ma_iconst dX1_threeToTwo_28 ?_
  refine ma_rcmp_ge 73 dX1_threeToTwo_29 rfl (by decide) (by decide) (fun c29 => absurd c29 (by decide)) (fun c29 => ?_)
  refine ma_iload dX1_threeToTwo_32 rfl ?_
  refine ma_iload dX1_threeToTwo_34 rfl ?_
  refine ma_rcmp_eq 67 dX1_threeToTwo_36 rfl (by decide) (by decide) (fun c36 => absurd c36 (by decide)) (fun c36 => ?_)
  refine ma_iload dX1_threeToTwo_39 rfl ?_
  refine ma_iload dX1_threeToTwo_41 rfl ?_
  refine ma_rcmp_eq 67 dX1_threeToTwo_43 rfl (by decide) (by decide) (fun c43 => absurd c43 (by decide)) (fun c43 => ?_)
  refine ma_iload dX1_threeToTwo_46 rfl ?_
  refine ma_iconst dX1_threeToTwo_48 ?_
  refine ma_aload_n dX1_threeToTwo_49 rfl ?_
  refine ma_getf dX1_threeToTwo_50 fX1_92 (by first | exact vh_57 | exact vh_58 | exact (vh_n (by omega)).trans (by assumption) | exact ((ma_up_n (Ne.symm n6)).trans ((vh_n (by omega)).trans hc))) (by rfl) ?_
  refine ma_iconst dX1_threeToTwo_53 ?_
  refine ma_iload dX1_threeToTwo_54 rfl ?_
  refine ma_imul dX1_threeToTwo_56 ?_
  refine ma_iload dX1_threeToTwo_57 rfl ?_
  refine ma_iadd dX1_threeToTwo_59 ?_
  refine ma_iald dX1_threeToTwo_60 (by first | exact vh_57 | exact vh_58 | exact (vh_n (by omega)).trans (by assumption) | exact ((ma_up_n (Ne.symm n6)).trans ((vh_n (by omega)).trans hc))) (by omega) (by omega) (by omega) ?_
  refine ma_iconst dX1_threeToTwo_61 ?_
  refine ma_kshr 32 dX1_threeToTwo_62 (by decide) (by constructor <;> omega) ?_
  refine ma_ishl dX1_threeToTwo_63 ?_
  refine ma_ior dX1_threeToTwo_64 ?_
  refine ma_istoreN dX1_threeToTwo_65 (by decide) rfl ?_
  refine ma_iincK (3) dX1_threeToTwo_67 rfl (by decide) rfl (by decide) ?_
  refine ma_goto 26 dX1_threeToTwo_70 rfl ?_
  show ma_J none mX1_threeToTwo (d + 2) 0 0 26 [some (vr 54), some (vr b), some (vi k), some (vr c), some (vi (k / 16)), some (vi 0), some (vi 1), _, some (vi 3), _] [] _ nx Q
  refine ma_iload dX1_threeToTwo_26 rfl ?_
  refine ma_iconst dX1_threeToTwo_28 ?_
  refine ma_rcmp_ge 73 dX1_threeToTwo_29 rfl (by decide) (by decide) (fun c29 => absurd c29 (by decide)) (fun c29 => ?_)
  refine ma_iload dX1_threeToTwo_32 rfl ?_
  refine ma_iload dX1_threeToTwo_34 rfl ?_
  refine ma_rcmp_eq 67 dX1_threeToTwo_36 rfl (by decide) (by decide) (fun c36 => absurd c36 (by decide)) (fun c36 => ?_)
  refine ma_iload dX1_threeToTwo_39 rfl ?_
  refine ma_iload dX1_threeToTwo_41 rfl ?_
  refine ma_rcmp_eq 67 dX1_threeToTwo_43 rfl (by decide) (by decide) (fun c43 => absurd c43 (by decide)) (fun c43 => ?_)
  refine ma_iload dX1_threeToTwo_46 rfl ?_
  refine ma_iconst dX1_threeToTwo_48 ?_
  refine ma_aload_n dX1_threeToTwo_49 rfl ?_
  refine ma_getf dX1_threeToTwo_50 fX1_92 (by first | exact vh_57 | exact vh_58 | exact (vh_n (by omega)).trans (by assumption) | exact ((ma_up_n (Ne.symm n6)).trans ((vh_n (by omega)).trans hc))) (by rfl) ?_
  refine ma_iconst dX1_threeToTwo_53 ?_
  refine ma_iload dX1_threeToTwo_54 rfl ?_
  refine ma_imul dX1_threeToTwo_56 ?_
  refine ma_iload dX1_threeToTwo_57 rfl ?_
  refine ma_iadd dX1_threeToTwo_59 ?_
  refine ma_iald dX1_threeToTwo_60 (by first | exact vh_57 | exact vh_58 | exact (vh_n (by omega)).trans (by assumption) | exact ((ma_up_n (Ne.symm n6)).trans ((vh_n (by omega)).trans hc))) (by omega) (by omega) (by omega) ?_
  refine ma_iconst dX1_threeToTwo_61 ?_
  refine ma_kshr 32 dX1_threeToTwo_62 (by decide) (by constructor <;> omega) ?_
  refine ma_ishl dX1_threeToTwo_63 ?_
  refine ma_ior dX1_threeToTwo_64 ?_
  refine ma_istoreN dX1_threeToTwo_65 (by decide) rfl ?_
  refine ma_iincK (4) dX1_threeToTwo_67 rfl (by decide) rfl (by decide) ?_
  refine ma_goto 26 dX1_threeToTwo_70 rfl ?_
  show ma_J none mX1_threeToTwo (d + 2) 0 0 26 [some (vr 54), some (vr b), some (vi k), some (vr c), some (vi (k / 16)), some (vi 0), some (vi 1), _, some (vi 4), _] [] _ nx Q
  refine ma_iload dX1_threeToTwo_26 rfl ?_
  refine ma_iconst dX1_threeToTwo_28 ?_
  refine ma_rcmp_ge 73 dX1_threeToTwo_29 rfl (by decide) (by decide) (fun c29 => ?_) (fun c29 => absurd c29 (by decide))
  refine ma_aload_n dX1_threeToTwo_73 rfl ?_
  refine ma_aload_n dX1_threeToTwo_74 rfl ?_
  refine ma_iload dX1_threeToTwo_75 rfl ?_
  refine ma_cV [_, _] dX1_threeToTwo_77 wX1_layOut lX1_154 iX1_layOut sX1_layOut rfl (by first | exact vh_57 | exact vh_58 | exact (vh_n (by omega)).trans (by assumption) | exact ((ma_up_n (Ne.symm n6)).trans ((vh_n (by omega)).trans hc))) (Nat.le_of_ble_eq_true rfl) ?_
  refine c_X1_layOut (S := fun i => (i = k / 16 ∨ i = G (4 * (k / 16) + 2) / 32) ∨ i = G (4 * (k / 16) + 3) / 32) hm hb nb (by omega) (mk_or (mk_or (mk_1 (by omega) (by omega)) (by omega) (by omega)) (by omega) (by omega)) (fun H T hL => ?_)
  rw [sty_3 (by omega) (by omega) (by omega) (by omega) (by omega) (by omega) (by omega) (by omega) (by omega)]
  refine ma_istoreN dX1_threeToTwo_80 (by decide) rfl ?_
  refine ma_aload_n dX1_threeToTwo_82 rfl ?_
  refine ma_iconst dX1_threeToTwo_83 ?_
  refine ma_iload dX1_threeToTwo_84 rfl ?_
  refine ma_imul dX1_threeToTwo_86 ?_
  refine ma_iload dX1_threeToTwo_87 rfl ?_
  refine ma_iadd dX1_threeToTwo_89 ?_
  refine ma_iload dX1_threeToTwo_90 rfl ?_
  refine ma_iconst dX1_threeToTwo_92 ?_
  refine ma_cV [_, _, _] dX1_threeToTwo_93 wX1_put lX1_157 iX1_put sX1_put rfl (by first | exact vh_57 | exact vh_58 | exact (vh_n (by omega)).trans (by assumption) | exact ((ma_up_n (Ne.symm n6)).trans ((vh_n (by omega)).trans hc))) (Nat.le_of_ble_eq_true rfl) ?_
  refine c_X1_put hm (by constructor <;> omega) ?_
  refine ma_aload_n dX1_threeToTwo_96 rfl ?_
  refine ma_iconst dX1_threeToTwo_97 ?_
  refine ma_iload dX1_threeToTwo_98 rfl ?_
  refine ma_imul dX1_threeToTwo_100 ?_
  refine ma_iload dX1_threeToTwo_101 rfl ?_
  refine ma_iadd dX1_threeToTwo_103 ?_
  refine ma_iload dX1_threeToTwo_104 rfl ?_
  refine ma_iconst dX1_threeToTwo_106 ?_
  refine ma_iadd dX1_threeToTwo_107 ?_
  refine ma_iconst dX1_threeToTwo_108 ?_
  refine ma_cV [_, _, _] dX1_threeToTwo_109 wX1_put lX1_157 iX1_put sX1_put rfl (by first | exact vh_57 | exact vh_58 | exact (vh_n (by omega)).trans (by assumption) | exact ((ma_up_n (Ne.symm n6)).trans ((vh_n (by omega)).trans hc))) (Nat.le_of_ble_eq_true rfl) ?_
  refine c_X1_put hm (by constructor <;> omega) ?_
  refine ma_iconst dX1_threeToTwo_112 ?_
  refine ma_istoreN dX1_threeToTwo_113 (by decide) rfl ?_
  show ma_J none mX1_threeToTwo (d + 2) 0 0 115 [some (vr 54), some (vr b), some (vi k), some (vr c), some (vi (k / 16)), some (vi 0), some (vi 1), _, some (vi (t - 3)), some (vi 0)] [] _ nx Q
  refine ma_iload dX1_threeToTwo_115 rfl ?_
  refine ma_iconst dX1_threeToTwo_117 ?_
  refine ma_rcmp_ge 187 dX1_threeToTwo_118 rfl (by decide) (by decide) (fun c118 => absurd c118 (by decide)) (fun c118 => ?_)
  refine ma_iload dX1_threeToTwo_121 rfl ?_
  refine ma_iload dX1_threeToTwo_123 rfl ?_
  refine ma_rcmp_eq 181 dX1_threeToTwo_125 rfl (by decide) (by decide) (fun c125 => ?_) (fun c125 => absurd c125 (by decide))
  refine ma_iincK (1) dX1_threeToTwo_181 rfl (by decide) rfl (by decide) ?_
  refine ma_goto 115 dX1_threeToTwo_184 rfl ?_
  show ma_J none mX1_threeToTwo (d + 2) 0 0 115 [some (vr 54), some (vr b), some (vi k), some (vr c), some (vi (k / 16)), some (vi 0), some (vi 1), _, some (vi (t - 3)), some (vi 1)] [] _ nx Q
  refine ma_iload dX1_threeToTwo_115 rfl ?_
  refine ma_iconst dX1_threeToTwo_117 ?_
  refine ma_rcmp_ge 187 dX1_threeToTwo_118 rfl (by decide) (by decide) (fun c118 => absurd c118 (by decide)) (fun c118 => ?_)
  refine ma_iload dX1_threeToTwo_121 rfl ?_
  refine ma_iload dX1_threeToTwo_123 rfl ?_
  refine ma_rcmp_eq 181 dX1_threeToTwo_125 rfl (by decide) (by decide) (fun c125 => absurd c125 (by decide)) (fun c125 => ?_)
  refine ma_iload dX1_threeToTwo_128 rfl ?_
  refine ma_iload dX1_threeToTwo_130 rfl ?_
  refine ma_rcmp_eq 181 dX1_threeToTwo_132 rfl (by decide) (by decide) (fun c132 => ?_) (fun c132 => absurd c132 (by decide))
  refine ma_iincK (2) dX1_threeToTwo_181 rfl (by decide) rfl (by decide) ?_
  refine ma_goto 115 dX1_threeToTwo_184 rfl ?_
  show ma_J none mX1_threeToTwo (d + 2) 0 0 115 [some (vr 54), some (vr b), some (vi k), some (vr c), some (vi (k / 16)), some (vi 0), some (vi 1), _, some (vi (t - 3)), some (vi 2)] [] _ nx Q
  refine ma_iload dX1_threeToTwo_115 rfl ?_
  refine ma_iconst dX1_threeToTwo_117 ?_
  refine ma_rcmp_ge 187 dX1_threeToTwo_118 rfl (by decide) (by decide) (fun c118 => absurd c118 (by decide)) (fun c118 => ?_)
  refine ma_iload dX1_threeToTwo_121 rfl ?_
  refine ma_iload dX1_threeToTwo_123 rfl ?_
  refine ma_rcmp_eq 181 dX1_threeToTwo_125 rfl (by decide) (by decide) (fun c125 => absurd c125 (by decide)) (fun c125 => ?_)
  refine ma_iload dX1_threeToTwo_128 rfl ?_
  refine ma_iload dX1_threeToTwo_130 rfl ?_
  refine ma_rcmp_eq 181 dX1_threeToTwo_132 rfl (by decide) (by decide) (fun c132 => absurd c132 (by decide)) (fun c132 => ?_)
  refine ma_aload_n dX1_threeToTwo_135 rfl ?_
  refine ma_aload_n dX1_threeToTwo_136 rfl ?_
  refine ma_getf dX1_threeToTwo_137 fX1_92 (by first | exact vh_57 | exact vh_58 | exact (vh_n (by omega)).trans (by assumption) | exact ((ma_up_n (Ne.symm n6)).trans ((vh_n (by omega)).trans hc))) (by rfl) ?_
  refine ma_iconst dX1_threeToTwo_140 ?_
  refine ma_iload dX1_threeToTwo_141 rfl ?_
  refine ma_imul dX1_threeToTwo_143 ?_
  refine ma_iload dX1_threeToTwo_144 rfl ?_
  refine ma_iadd dX1_threeToTwo_146 ?_
  refine ma_iald dX1_threeToTwo_147 (by first | exact vh_57 | exact vh_58 | exact (vh_n (by omega)).trans (by assumption) | exact ((ma_up_n (Ne.symm n6)).trans ((vh_n (by omega)).trans hc))) (by omega) (by omega) (by omega) ?_
  refine ma_iload dX1_threeToTwo_148 rfl ?_
  refine ma_iload dX1_threeToTwo_150 rfl ?_
  refine ma_iload dX1_threeToTwo_152 rfl ?_
  refine ma_cV [_, _, _, _] dX1_threeToTwo_154 wX1_putBeyond lX1_161 iX1_putBeyond sX1_putBeyond rfl (by first | exact vh_57 | exact vh_58 | exact (vh_n (by omega)).trans (by assumption) | exact ((ma_up_n (Ne.symm n6)).trans ((vh_n (by omega)).trans hc))) (Nat.le_of_ble_eq_true rfl) ?_
  refine c_X1_putBeyond hm (by constructor <;> omega) (by omega) (by decide) (by decide) ?_
  refine ma_aload_n dX1_threeToTwo_157 rfl ?_
  refine ma_aload_n dX1_threeToTwo_158 rfl ?_
  refine ma_getf dX1_threeToTwo_159 fX1_92 (by first | exact vh_57 | exact vh_58 | exact (vh_n (by omega)).trans (by assumption) | exact ((ma_up_n (Ne.symm n6)).trans ((vh_n (by omega)).trans hc))) (by rfl) ?_
  refine ma_iconst dX1_threeToTwo_162 ?_
  refine ma_iload dX1_threeToTwo_163 rfl ?_
  refine ma_imul dX1_threeToTwo_165 ?_
  refine ma_iload dX1_threeToTwo_166 rfl ?_
  refine ma_iadd dX1_threeToTwo_168 ?_
  refine ma_iald dX1_threeToTwo_169 (by first | exact vh_57 | exact vh_58 | exact (vh_n (by omega)).trans (by assumption) | exact ((ma_up_n (Ne.symm n6)).trans ((vh_n (by omega)).trans hc))) (by omega) (by omega) (by omega) ?_
  refine ma_iload dX1_threeToTwo_170 rfl ?_
  refine ma_iload dX1_threeToTwo_172 rfl ?_
  refine ma_iload dX1_threeToTwo_174 rfl ?_
  refine ma_iconst dX1_threeToTwo_176 ?_
  refine ma_iadd dX1_threeToTwo_177 ?_
  refine ma_cV [_, _, _, _] dX1_threeToTwo_178 wX1_putBeyond lX1_161 iX1_putBeyond sX1_putBeyond rfl (by first | exact vh_57 | exact vh_58 | exact (vh_n (by omega)).trans (by assumption) | exact ((ma_up_n (Ne.symm n6)).trans ((vh_n (by omega)).trans hc))) (Nat.le_of_ble_eq_true rfl) ?_
  refine c_X1_putBeyond hm (by constructor <;> omega) (by omega) (by decide) (by decide) ?_
  refine ma_iincK (3) dX1_threeToTwo_181 rfl (by decide) rfl (by decide) ?_
  refine ma_goto 115 dX1_threeToTwo_184 rfl ?_
  show ma_J none mX1_threeToTwo (d + 2) 0 0 115 [some (vr 54), some (vr b), some (vi k), some (vr c), some (vi (k / 16)), some (vi 0), some (vi 1), _, some (vi (t - 3)), some (vi 3)] [] _ nx Q
  refine ma_iload dX1_threeToTwo_115 rfl ?_
  refine ma_iconst dX1_threeToTwo_117 ?_
  refine ma_rcmp_ge 187 dX1_threeToTwo_118 rfl (by decide) (by decide) (fun c118 => absurd c118 (by decide)) (fun c118 => ?_)
  refine ma_iload dX1_threeToTwo_121 rfl ?_
  refine ma_iload dX1_threeToTwo_123 rfl ?_
  refine ma_rcmp_eq 181 dX1_threeToTwo_125 rfl (by decide) (by decide) (fun c125 => absurd c125 (by decide)) (fun c125 => ?_)
  refine ma_iload dX1_threeToTwo_128 rfl ?_
  refine ma_iload dX1_threeToTwo_130 rfl ?_
  refine ma_rcmp_eq 181 dX1_threeToTwo_132 rfl (by decide) (by decide) (fun c132 => absurd c132 (by decide)) (fun c132 => ?_)
  refine ma_aload_n dX1_threeToTwo_135 rfl ?_
  refine ma_aload_n dX1_threeToTwo_136 rfl ?_
  refine ma_getf dX1_threeToTwo_137 fX1_92 (by first | exact vh_57 | exact vh_58 | exact (vh_n (by omega)).trans (by assumption) | exact ((ma_up_n (Ne.symm n6)).trans ((vh_n (by omega)).trans hc))) (by rfl) ?_
  refine ma_iconst dX1_threeToTwo_140 ?_
  refine ma_iload dX1_threeToTwo_141 rfl ?_
  refine ma_imul dX1_threeToTwo_143 ?_
  refine ma_iload dX1_threeToTwo_144 rfl ?_
  refine ma_iadd dX1_threeToTwo_146 ?_
  refine ma_iald dX1_threeToTwo_147 (by first | exact vh_57 | exact vh_58 | exact (vh_n (by omega)).trans (by assumption) | exact ((ma_up_n (Ne.symm n6)).trans ((vh_n (by omega)).trans hc))) (by omega) (by omega) (by omega) ?_
  refine ma_iload dX1_threeToTwo_148 rfl ?_
  refine ma_iload dX1_threeToTwo_150 rfl ?_
  refine ma_iload dX1_threeToTwo_152 rfl ?_
  refine ma_cV [_, _, _, _] dX1_threeToTwo_154 wX1_putBeyond lX1_161 iX1_putBeyond sX1_putBeyond rfl (by first | exact vh_57 | exact vh_58 | exact (vh_n (by omega)).trans (by assumption) | exact ((ma_up_n (Ne.symm n6)).trans ((vh_n (by omega)).trans hc))) (Nat.le_of_ble_eq_true rfl) ?_
  refine c_X1_putBeyond hm (by constructor <;> omega) (by omega) (by decide) (by decide) ?_
  refine ma_aload_n dX1_threeToTwo_157 rfl ?_
  refine ma_aload_n dX1_threeToTwo_158 rfl ?_
  refine ma_getf dX1_threeToTwo_159 fX1_92 (by first | exact vh_57 | exact vh_58 | exact (vh_n (by omega)).trans (by assumption) | exact ((ma_up_n (Ne.symm n6)).trans ((vh_n (by omega)).trans hc))) (by rfl) ?_
  refine ma_iconst dX1_threeToTwo_162 ?_
  refine ma_iload dX1_threeToTwo_163 rfl ?_
  refine ma_imul dX1_threeToTwo_165 ?_
  refine ma_iload dX1_threeToTwo_166 rfl ?_
  refine ma_iadd dX1_threeToTwo_168 ?_
  refine ma_iald dX1_threeToTwo_169 (by first | exact vh_57 | exact vh_58 | exact (vh_n (by omega)).trans (by assumption) | exact ((ma_up_n (Ne.symm n6)).trans ((vh_n (by omega)).trans hc))) (by omega) (by omega) (by omega) ?_
  refine ma_iload dX1_threeToTwo_170 rfl ?_
  refine ma_iload dX1_threeToTwo_172 rfl ?_
  refine ma_iload dX1_threeToTwo_174 rfl ?_
  refine ma_iconst dX1_threeToTwo_176 ?_
  refine ma_iadd dX1_threeToTwo_177 ?_
  refine ma_cV [_, _, _, _] dX1_threeToTwo_178 wX1_putBeyond lX1_161 iX1_putBeyond sX1_putBeyond rfl (by first | exact vh_57 | exact vh_58 | exact (vh_n (by omega)).trans (by assumption) | exact ((ma_up_n (Ne.symm n6)).trans ((vh_n (by omega)).trans hc))) (Nat.le_of_ble_eq_true rfl) ?_
  refine c_X1_putBeyond hm (by constructor <;> omega) (by omega) (by decide) (by decide) ?_
  refine ma_iincK (4) dX1_threeToTwo_181 rfl (by decide) rfl (by decide) ?_
  refine ma_goto 115 dX1_threeToTwo_184 rfl ?_
  show ma_J none mX1_threeToTwo (d + 2) 0 0 115 [some (vr 54), some (vr b), some (vi k), some (vr c), some (vi (k / 16)), some (vi 0), some (vi 1), _, some (vi (t - 3)), some (vi 4)] [] _ nx Q
  refine ma_iload dX1_threeToTwo_115 rfl ?_
  refine ma_iconst dX1_threeToTwo_117 ?_
  refine ma_rcmp_ge 187 dX1_threeToTwo_118 rfl (by decide) (by decide) (fun c118 => ?_) (fun c118 => absurd c118 (by decide))
  refine ma_aload_n dX1_threeToTwo_187 rfl ?_
  refine ma_aload_n dX1_threeToTwo_188 rfl ?_
  refine ma_aload_n dX1_threeToTwo_189 rfl ?_
  refine ma_cV [_, _] dX1_threeToTwo_190 wX1_carry lX1_165 iX1_carry sX1_carry rfl (by first | exact vh_57 | exact vh_58 | exact (vh_n (by omega)).trans (by assumption) | exact ((ma_up_n (Ne.symm n6)).trans ((vh_n (by omega)).trans hc))) (Nat.le_of_ble_eq_true rfl) ?_
  refine c_X1_carry ((vh_n (by omega)).trans hm) ((vh_n (by omega)).trans hb) ((vh_n (by omega)).trans hg) vh_57 vh_58 ((vh_n (by omega)).trans hc) ne.2.2 n2 n3 ne.1 ne.2.1 n6 hG (uf_r (uf_r (uf_r (uf_r (uf_r (uf_r (fun j j0 j1 => by rw [(hL j j0 j1).1]; exact lo_in _ (by omega) j j0 j1) (by constructor <;> omega)) (by constructor <;> omega)) (by constructor <;> omega)) (by constructor <;> omega)) (by constructor <;> omega)) (by constructor <;> omega)) (uf_r (uf_r (uf_r (uf_r (uf_r (uf_r (fun j j0 j1 => by have := (hL j j0 j1).2; omega) (by decide)) (by decide)) a2) c2) a3) c3) ((vh_n (by omega)).trans he) ?_
  refine ma_aload_n dX1_threeToTwo_193 rfl ?_
  refine ma_iconst dX1_threeToTwo_194 ?_
  refine ma_iload dX1_threeToTwo_195 rfl ?_
  refine ma_imul dX1_threeToTwo_197 ?_
  refine ma_iload dX1_threeToTwo_198 rfl ?_
  refine ma_iadd dX1_threeToTwo_200 ?_
  refine ma_iload dX1_threeToTwo_201 rfl ?_
  refine ma_iconst dX1_threeToTwo_203 ?_
  refine ma_iadd dX1_threeToTwo_204 ?_
  refine ma_getsN (j := 3) dX1_threeToTwo_205 (by decide) gX1_173 ?_
  refine ma_iconst dX1_threeToTwo_208 ?_
  refine ma_iload dX1_threeToTwo_209 rfl ?_
  refine ma_imulK (0) dX1_threeToTwo_211 (by decide) ?_
  refine ma_iload dX1_threeToTwo_212 rfl ?_
  refine ma_iaddK (1) dX1_threeToTwo_214 (by decide) ?_
  refine ma_tald (j := 3) (n := 16) dX1_threeToTwo_215 (by decide) tl_3 (by omega) (by omega) (by decide) ?_
  refine ma_cV [_, _, _] dX1_threeToTwo_216 wX8_join lX1_176 iX8_join sX8_join rfl (by first | exact vh_57 | exact vh_58 | exact (vh_n (by omega)).trans (by assumption) | exact ((ma_up_n (Ne.symm n6)).trans ((vh_n (by omega)).trans hc))) (Nat.le_of_ble_eq_true rfl) ?_
  rw [show (ma_tf 3 1 : Int) = sx 1 0 by decide +kernel]
  refine c_join_fan (x := 1) (y := 0) ((ma_up_n (Ne.symm n6)).trans ((vh_n (by omega)).trans hc)) (ma_up_s _ _ _) (Ne.symm n6) (by constructor <;> omega) (by constructor <;> omega) (by decide) (by decide) ?_
  rw [ma_up_up]
  exact ma_vret dX1_threeToTwo_219 rfl (K H T hL)
set_option maxHeartbeats 2000000 in
theorem c_X1_three02 {h : ma_H} {b g c e nx d : Nat} {t u k : Int} {G C H T : Int → Int} {Q : Option ma_V → ma_H → Nat → Prop} (hm : h 54 = co 1 [vr 44, vr 39, vr 55, vr 57, vr 58]) (hb : h b = co 8 [vi t, vr g]) (hg : h g = ci 32 G) (hc : h c = co 8 [vi u, vr e]) (he : h e = ci 32 C) (nb : b ≠ 57 ∧ b ≠ 58) (ng : g ≠ 57 ∧ g ≠ 58) (nc : c ≠ 57 ∧ c ≠ 58) (ne : e ≠ 57 ∧ e ≠ 58 ∧ e ≠ 54) (n2 : e ≠ b) (n3 : e ≠ g) (n6 : e ≠ c) (hG : VG t G) (hk : 0 ≤ k ∧ k < 16 * t) (hu : k / 4 % 4 = 0) (hv : k % 4 = 2) (hgl : ∀ x, 0 ≤ x → x < 4 → x ≠ k / 4 % 4 → x ≠ k % 4 → 0 ≤ G (4 * (k / 16) + x) ∧ G (4 * (k / 16) + x) < 256 ∧ 0 ≤ G (4 * (k / 16) + x) % 32 ∧ G (4 * (k / 16) + x) % 32 < 24 ∧ G (4 * (k / 16) + x) / 32 < t) (h3 : k / 16 ≠ G (4 * (k / 16) + 1) / 32 ∧ k / 16 ≠ G (4 * (k / 16) + 3) / 32 ∧ G (4 * (k / 16) + 1) / 32 ≠ G (4 * (k / 16) + 3) / 32) (K : ∀ H T, (∀ j, 0 ≤ j → j < 4 * t → H j = lo (fun i => (i = k / 16 ∨ i = G (4 * (k / 16) + 1) / 32) ∨ i = G (4 * (k / 16) + 3) / 32) j ∧ T j = 0) → Q none (ma_up (vh h (uf (uf (uf (uf (uf (uf H (4 * (k / 16) + 2) (t - 3)) (4 * (k / 16) + 0) (t - 3 + 1)) (4 * (G (4 * (k / 16) + 1) / 32) + im (G (4 * (k / 16) + 1) % 32) 2) (t - 3)) (4 * (G (4 * (k / 16) + 1) / 32) + im (G (4 * (k / 16) + 1) % 32) 0) (t - 3 + 1)) (4 * (G (4 * (k / 16) + 3) / 32) + im (G (4 * (k / 16) + 3) % 32) 2) (t - 3)) (4 * (G (4 * (k / 16) + 3) / 32) + im (G (4 * (k / 16) + 3) % 32) 0) (t - 3 + 1)) (uf (uf (uf (uf (uf (uf T (4 * (k / 16) + 2) (0)) (4 * (k / 16) + 0) (0)) (4 * (G (4 * (k / 16) + 1) / 32) + im (G (4 * (k / 16) + 1) % 32) 2) (af (sx 1 2) (iv (G (4 * (k / 16) + 1) % 32)))) (4 * (G (4 * (k / 16) + 1) / 32) + im (G (4 * (k / 16) + 1) % 32) 0) (af (sx 1 0) (iv (G (4 * (k / 16) + 1) % 32)))) (4 * (G (4 * (k / 16) + 3) / 32) + im (G (4 * (k / 16) + 3) % 32) 2) (af (sx 3 2) (iv (G (4 * (k / 16) + 3) % 32)))) (4 * (G (4 * (k / 16) + 3) / 32) + im (G (4 * (k / 16) + 3) % 32) 0) (af (sx 3 0) (iv (G (4 * (k / 16) + 3) % 32))))) e (ci 32 (fj (cy G (uf (uf (uf (uf (uf (uf H (4 * (k / 16) + 2) (t - 3)) (4 * (k / 16) + 0) (t - 3 + 1)) (4 * (G (4 * (k / 16) + 1) / 32) + im (G (4 * (k / 16) + 1) % 32) 2) (t - 3)) (4 * (G (4 * (k / 16) + 1) / 32) + im (G (4 * (k / 16) + 1) % 32) 0) (t - 3 + 1)) (4 * (G (4 * (k / 16) + 3) / 32) + im (G (4 * (k / 16) + 3) % 32) 2) (t - 3)) (4 * (G (4 * (k / 16) + 3) / 32) + im (G (4 * (k / 16) + 3) % 32) 0) (t - 3 + 1)) (uf (uf (uf (uf (uf (uf T (4 * (k / 16) + 2) (0)) (4 * (k / 16) + 0) (0)) (4 * (G (4 * (k / 16) + 1) / 32) + im (G (4 * (k / 16) + 1) % 32) 2) (af (sx 1 2) (iv (G (4 * (k / 16) + 1) % 32)))) (4 * (G (4 * (k / 16) + 1) / 32) + im (G (4 * (k / 16) + 1) % 32) 0) (af (sx 1 0) (iv (G (4 * (k / 16) + 1) % 32)))) (4 * (G (4 * (k / 16) + 3) / 32) + im (G (4 * (k / 16) + 3) % 32) 2) (af (sx 3 2) (iv (G (4 * (k / 16) + 3) % 32)))) (4 * (G (4 * (k / 16) + 3) / 32) + im (G (4 * (k / 16) + 3) % 32) 0) (af (sx 3 0) (iv (G (4 * (k / 16) + 3) % 32)))) C (4 * t).toNat) (t - 3) (t - 3 + 1) 2 0))) nx) : ma_Ct mX1_threeToTwo (d + 2) 0 0 [vr 54, vr b, vi k, vr c] (vh h H T) nx Q := by
  have ht := hG.1
  have g1 := hgl 1 (by decide) (by decide) (by omega) (by omega)
  have i1 := iv_in g1.2.2.1 g1.2.2.2.1
  have b1 := im_in g1.2.2.1 g1.2.2.2.1 (show (0 : Int) ≤ 2 by decide) (by decide)
  have d1 := im_in g1.2.2.1 g1.2.2.2.1 (show (0 : Int) ≤ 0 by decide) (by decide)
  have a1 := af_in (sx_ok (i := 1) (j := 2) (by decide) (by decide) (by decide) (by decide)).1 (sx_ok (i := 1) (j := 2) (by decide) (by decide) (by decide) (by decide)).2.1 i1.1 i1.2
  have c1 := af_in (sx_ok (i := 1) (j := 0) (by decide) (by decide) (by decide) (by decide)).1 (sx_ok (i := 1) (j := 0) (by decide) (by decide) (by decide) (by decide)).2.1 i1.1 i1.2
  have g3 := hgl 3 (by decide) (by decide) (by omega) (by omega)
  have i3 := iv_in g3.2.2.1 g3.2.2.2.1
  have b3 := im_in g3.2.2.1 g3.2.2.2.1 (show (0 : Int) ≤ 2 by decide) (by decide)
  have d3 := im_in g3.2.2.1 g3.2.2.2.1 (show (0 : Int) ≤ 0 by decide) (by decide)
  have a3 := af_in (sx_ok (i := 3) (j := 2) (by decide) (by decide) (by decide) (by decide)).1 (sx_ok (i := 3) (j := 2) (by decide) (by decide) (by decide) (by decide)).2.1 i3.1 i3.2
  have c3 := af_in (sx_ok (i := 3) (j := 0) (by decide) (by decide) (by decide) (by decide)).1 (sx_ok (i := 3) (j := 0) (by decide) (by decide) (by decide) (by decide)).2.1 i3.1 i3.2
  refine ma_Ct.of (by decide +kernel) (Nat.le_of_ble_eq_true rfl) ?_
  refine ma_iload_n dX1_threeToTwo_0 rfl ?_
  refine ma_iconst dX1_threeToTwo_1 ?_
  refine ma_kshr 16 dX1_threeToTwo_2 (by decide) (by constructor <;> omega) ?_
  refine ma_istoreN dX1_threeToTwo_3 (by decide) rfl ?_
  refine ma_iload_n dX1_threeToTwo_5 rfl ?_
  refine ma_iconst dX1_threeToTwo_6 ?_
  refine ma_kshr 4 dX1_threeToTwo_7 (by decide) (by constructor <;> omega) ?_
  refine ma_iconst dX1_threeToTwo_8 ?_
  refine ma_kand 2 4 dX1_threeToTwo_9 (by decide) (by decide +kernel) (by decide) ?_
  rw [hu]
  refine ma_istoreN dX1_threeToTwo_10 (by decide) rfl ?_
  refine ma_iload_n dX1_threeToTwo_12 rfl ?_
  refine ma_iconst dX1_threeToTwo_13 ?_
  refine ma_kand 2 4 dX1_threeToTwo_14 (by decide) (by decide +kernel) (by decide) ?_
  rw [hv]
  refine ma_istoreN dX1_threeToTwo_15 (by decide) rfl ?_
  refine ma_iconst dX1_threeToTwo_17 ?_
  refine ma_iload dX1_threeToTwo_18 rfl ?_
  refine ma_ishl dX1_threeToTwo_20 ?_
  refine ma_istoreN dX1_threeToTwo_21 (by decide) rfl ?_
  refine ma_iconst dX1_threeToTwo_23 ?_
  refine ma_istoreN dX1_threeToTwo_24 (by decide) rfl ?_
  show ma_J none mX1_threeToTwo (d + 2) 0 0 26 [some (vr 54), some (vr b), some (vi k), some (vr c), some (vi (k / 16)), some (vi 0), some (vi 2), _, some (vi 0), _] [] _ nx Q
  refine ma_iload dX1_threeToTwo_26 rfl ?_
  refine ma_iconst dX1_threeToTwo_28 ?_
  refine ma_rcmp_ge 73 dX1_threeToTwo_29 rfl (by decide) (by decide) (fun c29 => absurd c29 (by decide)) (fun c29 => ?_)
  refine ma_iload dX1_threeToTwo_32 rfl ?_
  refine ma_iload dX1_threeToTwo_34 rfl ?_
  refine ma_rcmp_eq 67 dX1_threeToTwo_36 rfl (by decide) (by decide) (fun c36 => ?_) (fun c36 => absurd c36 (by decide))
  refine ma_iincK (1) dX1_threeToTwo_67 rfl (by decide) rfl (by decide) ?_
  refine ma_goto 26 dX1_threeToTwo_70 rfl ?_
  show ma_J none mX1_threeToTwo (d + 2) 0 0 26 [some (vr 54), some (vr b), some (vi k), some (vr c), some (vi (k / 16)), some (vi 0), some (vi 2), _, some (vi 1), _] [] _ nx Q
  refine ma_iload dX1_threeToTwo_26 rfl ?_
  refine ma_iconst dX1_threeToTwo_28 ?_
  refine ma_rcmp_ge 73 dX1_threeToTwo_29 rfl (by decide) (by decide) (fun c29 => absurd c29 (by decide)) (fun c29 => ?_)
  refine ma_iload dX1_threeToTwo_32 rfl ?_
  refine ma_iload dX1_threeToTwo_34 rfl ?_
  refine ma_rcmp_eq 67 dX1_threeToTwo_36 rfl (by decide) (by decide) (fun c36 => absurd c36 (by decide)) (fun c36 => ?_)
  refine ma_iload dX1_threeToTwo_39 rfl ?_
  refine ma_iload dX1_threeToTwo_41 rfl ?_
  refine ma_rcmp_eq 67 dX1_threeToTwo_43 rfl (by decide) (by decide) (fun c43 => absurd c43 (by decide)) (fun c43 => ?_)
  refine ma_iload dX1_threeToTwo_46 rfl ?_
  refine ma_iconst dX1_threeToTwo_48 ?_
  refine ma_aload_n dX1_threeToTwo_49 rfl ?_
  refine ma_getf dX1_threeToTwo_50 fX1_92 (by first | exact vh_57 | exact vh_58 | exact (vh_n (by omega)).trans (by assumption) | exact ((ma_up_n (Ne.symm n6)).trans ((vh_n (by omega)).trans hc))) (by rfl) ?_
  refine ma_iconst dX1_threeToTwo_53 ?_
  refine ma_iload dX1_threeToTwo_54 rfl ?_
  refine ma_imul dX1_threeToTwo_56 ?_
  refine ma_iload dX1_threeToTwo_57 rfl ?_
  refine ma_iadd dX1_threeToTwo_59 ?_
  refine ma_iald dX1_threeToTwo_60 (by first | exact vh_57 | exact vh_58 | exact (vh_n (by omega)).trans (by assumption) | exact ((ma_up_n (Ne.symm n6)).trans ((vh_n (by omega)).trans hc))) (by omega) (by omega) (by omega) ?_
  refine ma_iconst dX1_threeToTwo_61 ?_
  refine ma_kshr 32 dX1_threeToTwo_62 (by decide) (by constructor <;> omega) ?_
  refine ma_ishl dX1_threeToTwo_63 ?_
  refine ma_ior dX1_threeToTwo_64 ?_
  refine ma_istoreN dX1_threeToTwo_65 (by decide) rfl ?_
  refine ma_iincK (2) dX1_threeToTwo_67 rfl (by decide) rfl (by decide) ?_
  refine ma_goto 26 dX1_threeToTwo_70 rfl ?_
  show ma_J none mX1_threeToTwo (d + 2) 0 0 26 [some (vr 54), some (vr b), some (vi k), some (vr c), some (vi (k / 16)), some (vi 0), some (vi 2), _, some (vi 2), _] [] _ nx Q
  refine ma_iload dX1_threeToTwo_26 rfl ?_
  refine ma_iconst dX1_threeToTwo_28 ?_
  refine ma_rcmp_ge 73 dX1_threeToTwo_29 rfl (by decide) (by decide) (fun c29 => absurd c29 (by decide)) (fun c29 => ?_)
  refine ma_iload dX1_threeToTwo_32 rfl ?_
  refine ma_iload dX1_threeToTwo_34 rfl ?_
  refine ma_rcmp_eq 67 dX1_threeToTwo_36 rfl (by decide) (by decide) (fun c36 => absurd c36 (by decide)) (fun c36 => ?_)
  refine ma_iload dX1_threeToTwo_39 rfl ?_
  refine ma_iload dX1_threeToTwo_41 rfl ?_
  refine ma_rcmp_eq 67 dX1_threeToTwo_43 rfl (by decide) (by decide) (fun c43 => ?_) (fun c43 => absurd c43 (by decide))
  refine ma_iincK (3) dX1_threeToTwo_67 rfl (by decide) rfl (by decide) ?_
  refine ma_goto 26 dX1_threeToTwo_70 rfl ?_
  show ma_J none mX1_threeToTwo (d + 2) 0 0 26 [some (vr 54), some (vr b), some (vi k), some (vr c), some (vi (k / 16)), some (vi 0), some (vi 2), _, some (vi 3), _] [] _ nx Q
  refine ma_iload dX1_threeToTwo_26 rfl ?_
  refine ma_iconst dX1_threeToTwo_28 ?_
  refine ma_rcmp_ge 73 dX1_threeToTwo_29 rfl (by decide) (by decide) (fun c29 => absurd c29 (by decide)) (fun c29 => ?_)
  refine ma_iload dX1_threeToTwo_32 rfl ?_
  refine ma_iload dX1_threeToTwo_34 rfl ?_
  refine ma_rcmp_eq 67 dX1_threeToTwo_36 rfl (by decide) (by decide) (fun c36 => absurd c36 (by decide)) (fun c36 => ?_)
  refine ma_iload dX1_threeToTwo_39 rfl ?_
  refine ma_iload dX1_threeToTwo_41 rfl ?_
  refine ma_rcmp_eq 67 dX1_threeToTwo_43 rfl (by decide) (by decide) (fun c43 => absurd c43 (by decide)) (fun c43 => ?_)
  refine ma_iload dX1_threeToTwo_46 rfl ?_
  refine ma_iconst dX1_threeToTwo_48 ?_
  refine ma_aload_n dX1_threeToTwo_49 rfl ?_
  refine ma_getf dX1_threeToTwo_50 fX1_92 (by first | exact vh_57 | exact vh_58 | exact (vh_n (by omega)).trans (by assumption) | exact ((ma_up_n (Ne.symm n6)).trans ((vh_n (by omega)).trans hc))) (by rfl) ?_
  refine ma_iconst dX1_threeToTwo_53 ?_
  refine ma_iload dX1_threeToTwo_54 rfl ?_
  refine ma_imul dX1_threeToTwo_56 ?_
  refine ma_iload dX1_threeToTwo_57 rfl ?_
  refine ma_iadd dX1_threeToTwo_59 ?_
  refine ma_iald dX1_threeToTwo_60 (by first | exact vh_57 | exact vh_58 | exact (vh_n (by omega)).trans (by assumption) | exact ((ma_up_n (Ne.symm n6)).trans ((vh_n (by omega)).trans hc))) (by omega) (by omega) (by omega) ?_
  refine ma_iconst dX1_threeToTwo_61 ?_
  refine ma_kshr 32 dX1_threeToTwo_62 (by decide) (by constructor <;> omega) ?_
  refine ma_ishl dX1_threeToTwo_63 ?_
  refine ma_ior dX1_threeToTwo_64 ?_
  refine ma_istoreN dX1_threeToTwo_65 (by decide) rfl ?_
  refine ma_iincK (4) dX1_threeToTwo_67 rfl (by decide) rfl (by decide) ?_
  refine ma_goto 26 dX1_threeToTwo_70 rfl ?_
  show ma_J none mX1_threeToTwo (d + 2) 0 0 26 [some (vr 54), some (vr b), some (vi k), some (vr c), some (vi (k / 16)), some (vi 0), some (vi 2), _, some (vi 4), _] [] _ nx Q
  refine ma_iload dX1_threeToTwo_26 rfl ?_
  refine ma_iconst dX1_threeToTwo_28 ?_
  refine ma_rcmp_ge 73 dX1_threeToTwo_29 rfl (by decide) (by decide) (fun c29 => ?_) (fun c29 => absurd c29 (by decide))
  refine ma_aload_n dX1_threeToTwo_73 rfl ?_
  refine ma_aload_n dX1_threeToTwo_74 rfl ?_
  refine ma_iload dX1_threeToTwo_75 rfl ?_
  refine ma_cV [_, _] dX1_threeToTwo_77 wX1_layOut lX1_154 iX1_layOut sX1_layOut rfl (by first | exact vh_57 | exact vh_58 | exact (vh_n (by omega)).trans (by assumption) | exact ((ma_up_n (Ne.symm n6)).trans ((vh_n (by omega)).trans hc))) (Nat.le_of_ble_eq_true rfl) ?_
  refine c_X1_layOut (S := fun i => (i = k / 16 ∨ i = G (4 * (k / 16) + 1) / 32) ∨ i = G (4 * (k / 16) + 3) / 32) hm hb nb (by omega) (mk_or (mk_or (mk_1 (by omega) (by omega)) (by omega) (by omega)) (by omega) (by omega)) (fun H T hL => ?_)
  rw [sty_3 (by omega) (by omega) (by omega) (by omega) (by omega) (by omega) (by omega) (by omega) (by omega)]
  refine ma_istoreN dX1_threeToTwo_80 (by decide) rfl ?_
  refine ma_aload_n dX1_threeToTwo_82 rfl ?_
  refine ma_iconst dX1_threeToTwo_83 ?_
  refine ma_iload dX1_threeToTwo_84 rfl ?_
  refine ma_imul dX1_threeToTwo_86 ?_
  refine ma_iload dX1_threeToTwo_87 rfl ?_
  refine ma_iadd dX1_threeToTwo_89 ?_
  refine ma_iload dX1_threeToTwo_90 rfl ?_
  refine ma_iconst dX1_threeToTwo_92 ?_
  refine ma_cV [_, _, _] dX1_threeToTwo_93 wX1_put lX1_157 iX1_put sX1_put rfl (by first | exact vh_57 | exact vh_58 | exact (vh_n (by omega)).trans (by assumption) | exact ((ma_up_n (Ne.symm n6)).trans ((vh_n (by omega)).trans hc))) (Nat.le_of_ble_eq_true rfl) ?_
  refine c_X1_put hm (by constructor <;> omega) ?_
  refine ma_aload_n dX1_threeToTwo_96 rfl ?_
  refine ma_iconst dX1_threeToTwo_97 ?_
  refine ma_iload dX1_threeToTwo_98 rfl ?_
  refine ma_imul dX1_threeToTwo_100 ?_
  refine ma_iload dX1_threeToTwo_101 rfl ?_
  refine ma_iadd dX1_threeToTwo_103 ?_
  refine ma_iload dX1_threeToTwo_104 rfl ?_
  refine ma_iconst dX1_threeToTwo_106 ?_
  refine ma_iadd dX1_threeToTwo_107 ?_
  refine ma_iconst dX1_threeToTwo_108 ?_
  refine ma_cV [_, _, _] dX1_threeToTwo_109 wX1_put lX1_157 iX1_put sX1_put rfl (by first | exact vh_57 | exact vh_58 | exact (vh_n (by omega)).trans (by assumption) | exact ((ma_up_n (Ne.symm n6)).trans ((vh_n (by omega)).trans hc))) (Nat.le_of_ble_eq_true rfl) ?_
  refine c_X1_put hm (by constructor <;> omega) ?_
  refine ma_iconst dX1_threeToTwo_112 ?_
  refine ma_istoreN dX1_threeToTwo_113 (by decide) rfl ?_
  show ma_J none mX1_threeToTwo (d + 2) 0 0 115 [some (vr 54), some (vr b), some (vi k), some (vr c), some (vi (k / 16)), some (vi 0), some (vi 2), _, some (vi (t - 3)), some (vi 0)] [] _ nx Q
  refine ma_iload dX1_threeToTwo_115 rfl ?_
  refine ma_iconst dX1_threeToTwo_117 ?_
  refine ma_rcmp_ge 187 dX1_threeToTwo_118 rfl (by decide) (by decide) (fun c118 => absurd c118 (by decide)) (fun c118 => ?_)
  refine ma_iload dX1_threeToTwo_121 rfl ?_
  refine ma_iload dX1_threeToTwo_123 rfl ?_
  refine ma_rcmp_eq 181 dX1_threeToTwo_125 rfl (by decide) (by decide) (fun c125 => ?_) (fun c125 => absurd c125 (by decide))
  refine ma_iincK (1) dX1_threeToTwo_181 rfl (by decide) rfl (by decide) ?_
  refine ma_goto 115 dX1_threeToTwo_184 rfl ?_
  show ma_J none mX1_threeToTwo (d + 2) 0 0 115 [some (vr 54), some (vr b), some (vi k), some (vr c), some (vi (k / 16)), some (vi 0), some (vi 2), _, some (vi (t - 3)), some (vi 1)] [] _ nx Q
  refine ma_iload dX1_threeToTwo_115 rfl ?_
  refine ma_iconst dX1_threeToTwo_117 ?_
  refine ma_rcmp_ge 187 dX1_threeToTwo_118 rfl (by decide) (by decide) (fun c118 => absurd c118 (by decide)) (fun c118 => ?_)
  refine ma_iload dX1_threeToTwo_121 rfl ?_
  refine ma_iload dX1_threeToTwo_123 rfl ?_
  refine ma_rcmp_eq 181 dX1_threeToTwo_125 rfl (by decide) (by decide) (fun c125 => absurd c125 (by decide)) (fun c125 => ?_)
  refine ma_iload dX1_threeToTwo_128 rfl ?_
  refine ma_iload dX1_threeToTwo_130 rfl ?_
  refine ma_rcmp_eq 181 dX1_threeToTwo_132 rfl (by decide) (by decide) (fun c132 => absurd c132 (by decide)) (fun c132 => ?_)
  refine ma_aload_n dX1_threeToTwo_135 rfl ?_
  refine ma_aload_n dX1_threeToTwo_136 rfl ?_
  refine ma_getf dX1_threeToTwo_137 fX1_92 (by first | exact vh_57 | exact vh_58 | exact (vh_n (by omega)).trans (by assumption) | exact ((ma_up_n (Ne.symm n6)).trans ((vh_n (by omega)).trans hc))) (by rfl) ?_
  refine ma_iconst dX1_threeToTwo_140 ?_
  refine ma_iload dX1_threeToTwo_141 rfl ?_
  refine ma_imul dX1_threeToTwo_143 ?_
  refine ma_iload dX1_threeToTwo_144 rfl ?_
  refine ma_iadd dX1_threeToTwo_146 ?_
  refine ma_iald dX1_threeToTwo_147 (by first | exact vh_57 | exact vh_58 | exact (vh_n (by omega)).trans (by assumption) | exact ((ma_up_n (Ne.symm n6)).trans ((vh_n (by omega)).trans hc))) (by omega) (by omega) (by omega) ?_
  refine ma_iload dX1_threeToTwo_148 rfl ?_
  refine ma_iload dX1_threeToTwo_150 rfl ?_
  refine ma_iload dX1_threeToTwo_152 rfl ?_
  refine ma_cV [_, _, _, _] dX1_threeToTwo_154 wX1_putBeyond lX1_161 iX1_putBeyond sX1_putBeyond rfl (by first | exact vh_57 | exact vh_58 | exact (vh_n (by omega)).trans (by assumption) | exact ((ma_up_n (Ne.symm n6)).trans ((vh_n (by omega)).trans hc))) (Nat.le_of_ble_eq_true rfl) ?_
  refine c_X1_putBeyond hm (by constructor <;> omega) (by omega) (by decide) (by decide) ?_
  refine ma_aload_n dX1_threeToTwo_157 rfl ?_
  refine ma_aload_n dX1_threeToTwo_158 rfl ?_
  refine ma_getf dX1_threeToTwo_159 fX1_92 (by first | exact vh_57 | exact vh_58 | exact (vh_n (by omega)).trans (by assumption) | exact ((ma_up_n (Ne.symm n6)).trans ((vh_n (by omega)).trans hc))) (by rfl) ?_
  refine ma_iconst dX1_threeToTwo_162 ?_
  refine ma_iload dX1_threeToTwo_163 rfl ?_
  refine ma_imul dX1_threeToTwo_165 ?_
  refine ma_iload dX1_threeToTwo_166 rfl ?_
  refine ma_iadd dX1_threeToTwo_168 ?_
  refine ma_iald dX1_threeToTwo_169 (by first | exact vh_57 | exact vh_58 | exact (vh_n (by omega)).trans (by assumption) | exact ((ma_up_n (Ne.symm n6)).trans ((vh_n (by omega)).trans hc))) (by omega) (by omega) (by omega) ?_
  refine ma_iload dX1_threeToTwo_170 rfl ?_
  refine ma_iload dX1_threeToTwo_172 rfl ?_
  refine ma_iload dX1_threeToTwo_174 rfl ?_
  refine ma_iconst dX1_threeToTwo_176 ?_
  refine ma_iadd dX1_threeToTwo_177 ?_
  refine ma_cV [_, _, _, _] dX1_threeToTwo_178 wX1_putBeyond lX1_161 iX1_putBeyond sX1_putBeyond rfl (by first | exact vh_57 | exact vh_58 | exact (vh_n (by omega)).trans (by assumption) | exact ((ma_up_n (Ne.symm n6)).trans ((vh_n (by omega)).trans hc))) (Nat.le_of_ble_eq_true rfl) ?_
  refine c_X1_putBeyond hm (by constructor <;> omega) (by omega) (by decide) (by decide) ?_
  refine ma_iincK (2) dX1_threeToTwo_181 rfl (by decide) rfl (by decide) ?_
  refine ma_goto 115 dX1_threeToTwo_184 rfl ?_
  show ma_J none mX1_threeToTwo (d + 2) 0 0 115 [some (vr 54), some (vr b), some (vi k), some (vr c), some (vi (k / 16)), some (vi 0), some (vi 2), _, some (vi (t - 3)), some (vi 2)] [] _ nx Q
  refine ma_iload dX1_threeToTwo_115 rfl ?_
  refine ma_iconst dX1_threeToTwo_117 ?_
  refine ma_rcmp_ge 187 dX1_threeToTwo_118 rfl (by decide) (by decide) (fun c118 => absurd c118 (by decide)) (fun c118 => ?_)
  refine ma_iload dX1_threeToTwo_121 rfl ?_
  refine ma_iload dX1_threeToTwo_123 rfl ?_
  refine ma_rcmp_eq 181 dX1_threeToTwo_125 rfl (by decide) (by decide) (fun c125 => absurd c125 (by decide)) (fun c125 => ?_)
  refine ma_iload dX1_threeToTwo_128 rfl ?_
  refine ma_iload dX1_threeToTwo_130 rfl ?_
  refine ma_rcmp_eq 181 dX1_threeToTwo_132 rfl (by decide) (by decide) (fun c132 => ?_) (fun c132 => absurd c132 (by decide))
  refine ma_iincK (3) dX1_threeToTwo_181 rfl (by decide) rfl (by decide) ?_
  refine ma_goto 115 dX1_threeToTwo_184 rfl ?_
  show ma_J none mX1_threeToTwo (d + 2) 0 0 115 [some (vr 54), some (vr b), some (vi k), some (vr c), some (vi (k / 16)), some (vi 0), some (vi 2), _, some (vi (t - 3)), some (vi 3)] [] _ nx Q
  refine ma_iload dX1_threeToTwo_115 rfl ?_
  refine ma_iconst dX1_threeToTwo_117 ?_
  refine ma_rcmp_ge 187 dX1_threeToTwo_118 rfl (by decide) (by decide) (fun c118 => absurd c118 (by decide)) (fun c118 => ?_)
  refine ma_iload dX1_threeToTwo_121 rfl ?_
  refine ma_iload dX1_threeToTwo_123 rfl ?_
  refine ma_rcmp_eq 181 dX1_threeToTwo_125 rfl (by decide) (by decide) (fun c125 => absurd c125 (by decide)) (fun c125 => ?_)
  refine ma_iload dX1_threeToTwo_128 rfl ?_
  refine ma_iload dX1_threeToTwo_130 rfl ?_
  refine ma_rcmp_eq 181 dX1_threeToTwo_132 rfl (by decide) (by decide) (fun c132 => absurd c132 (by decide)) (fun c132 => ?_)
  refine ma_aload_n dX1_threeToTwo_135 rfl ?_
  refine ma_aload_n dX1_threeToTwo_136 rfl ?_
  refine ma_getf dX1_threeToTwo_137 fX1_92 (by first | exact vh_57 | exact vh_58 | exact (vh_n (by omega)).trans (by assumption) | exact ((ma_up_n (Ne.symm n6)).trans ((vh_n (by omega)).trans hc))) (by rfl) ?_
  refine ma_iconst dX1_threeToTwo_140 ?_
  refine ma_iload dX1_threeToTwo_141 rfl ?_
  refine ma_imul dX1_threeToTwo_143 ?_
  refine ma_iload dX1_threeToTwo_144 rfl ?_
  refine ma_iadd dX1_threeToTwo_146 ?_
  refine ma_iald dX1_threeToTwo_147 (by first | exact vh_57 | exact vh_58 | exact (vh_n (by omega)).trans (by assumption) | exact ((ma_up_n (Ne.symm n6)).trans ((vh_n (by omega)).trans hc))) (by omega) (by omega) (by omega) ?_
  refine ma_iload dX1_threeToTwo_148 rfl ?_
  refine ma_iload dX1_threeToTwo_150 rfl ?_
  refine ma_iload dX1_threeToTwo_152 rfl ?_
  refine ma_cV [_, _, _, _] dX1_threeToTwo_154 wX1_putBeyond lX1_161 iX1_putBeyond sX1_putBeyond rfl (by first | exact vh_57 | exact vh_58 | exact (vh_n (by omega)).trans (by assumption) | exact ((ma_up_n (Ne.symm n6)).trans ((vh_n (by omega)).trans hc))) (Nat.le_of_ble_eq_true rfl) ?_
  refine c_X1_putBeyond hm (by constructor <;> omega) (by omega) (by decide) (by decide) ?_
  refine ma_aload_n dX1_threeToTwo_157 rfl ?_
  refine ma_aload_n dX1_threeToTwo_158 rfl ?_
  refine ma_getf dX1_threeToTwo_159 fX1_92 (by first | exact vh_57 | exact vh_58 | exact (vh_n (by omega)).trans (by assumption) | exact ((ma_up_n (Ne.symm n6)).trans ((vh_n (by omega)).trans hc))) (by rfl) ?_
  refine ma_iconst dX1_threeToTwo_162 ?_
  refine ma_iload dX1_threeToTwo_163 rfl ?_
  refine ma_imul dX1_threeToTwo_165 ?_
  refine ma_iload dX1_threeToTwo_166 rfl ?_
  refine ma_iadd dX1_threeToTwo_168 ?_
  refine ma_iald dX1_threeToTwo_169 (by first | exact vh_57 | exact vh_58 | exact (vh_n (by omega)).trans (by assumption) | exact ((ma_up_n (Ne.symm n6)).trans ((vh_n (by omega)).trans hc))) (by omega) (by omega) (by omega) ?_
  refine ma_iload dX1_threeToTwo_170 rfl ?_
  refine ma_iload dX1_threeToTwo_172 rfl ?_
  refine ma_iload dX1_threeToTwo_174 rfl ?_
  refine ma_iconst dX1_threeToTwo_176 ?_
  refine ma_iadd dX1_threeToTwo_177 ?_
  refine ma_cV [_, _, _, _] dX1_threeToTwo_178 wX1_putBeyond lX1_161 iX1_putBeyond sX1_putBeyond rfl (by first | exact vh_57 | exact vh_58 | exact (vh_n (by omega)).trans (by assumption) | exact ((ma_up_n (Ne.symm n6)).trans ((vh_n (by omega)).trans hc))) (Nat.le_of_ble_eq_true rfl) ?_
  refine c_X1_putBeyond hm (by constructor <;> omega) (by omega) (by decide) (by decide) ?_
  refine ma_iincK (4) dX1_threeToTwo_181 rfl (by decide) rfl (by decide) ?_
  refine ma_goto 115 dX1_threeToTwo_184 rfl ?_
  show ma_J none mX1_threeToTwo (d + 2) 0 0 115 [some (vr 54), some (vr b), some (vi k), some (vr c), some (vi (k / 16)), some (vi 0), some (vi 2), _, some (vi (t - 3)), some (vi 4)] [] _ nx Q
  refine ma_iload dX1_threeToTwo_115 rfl ?_
  refine ma_iconst dX1_threeToTwo_117 ?_
  refine ma_rcmp_ge 187 dX1_threeToTwo_118 rfl (by decide) (by decide) (fun c118 => ?_) (fun c118 => absurd c118 (by decide))
  refine ma_aload_n dX1_threeToTwo_187 rfl ?_
  refine ma_aload_n dX1_threeToTwo_188 rfl ?_
  refine ma_aload_n dX1_threeToTwo_189 rfl ?_
  refine ma_cV [_, _] dX1_threeToTwo_190 wX1_carry lX1_165 iX1_carry sX1_carry rfl (by first | exact vh_57 | exact vh_58 | exact (vh_n (by omega)).trans (by assumption) | exact ((ma_up_n (Ne.symm n6)).trans ((vh_n (by omega)).trans hc))) (Nat.le_of_ble_eq_true rfl) ?_
  refine c_X1_carry ((vh_n (by omega)).trans hm) ((vh_n (by omega)).trans hb) ((vh_n (by omega)).trans hg) vh_57 vh_58 ((vh_n (by omega)).trans hc) ne.2.2 n2 n3 ne.1 ne.2.1 n6 hG (uf_r (uf_r (uf_r (uf_r (uf_r (uf_r (fun j j0 j1 => by rw [(hL j j0 j1).1]; exact lo_in _ (by omega) j j0 j1) (by constructor <;> omega)) (by constructor <;> omega)) (by constructor <;> omega)) (by constructor <;> omega)) (by constructor <;> omega)) (by constructor <;> omega)) (uf_r (uf_r (uf_r (uf_r (uf_r (uf_r (fun j j0 j1 => by have := (hL j j0 j1).2; omega) (by decide)) (by decide)) a1) c1) a3) c3) ((vh_n (by omega)).trans he) ?_
  refine ma_aload_n dX1_threeToTwo_193 rfl ?_
  refine ma_iconst dX1_threeToTwo_194 ?_
  refine ma_iload dX1_threeToTwo_195 rfl ?_
  refine ma_imul dX1_threeToTwo_197 ?_
  refine ma_iload dX1_threeToTwo_198 rfl ?_
  refine ma_iadd dX1_threeToTwo_200 ?_
  refine ma_iload dX1_threeToTwo_201 rfl ?_
  refine ma_iconst dX1_threeToTwo_203 ?_
  refine ma_iadd dX1_threeToTwo_204 ?_
  refine ma_getsN (j := 3) dX1_threeToTwo_205 (by decide) gX1_173 ?_
  refine ma_iconst dX1_threeToTwo_208 ?_
  refine ma_iload dX1_threeToTwo_209 rfl ?_
  refine ma_imulK (0) dX1_threeToTwo_211 (by decide) ?_
  refine ma_iload dX1_threeToTwo_212 rfl ?_
  refine ma_iaddK (2) dX1_threeToTwo_214 (by decide) ?_
  refine ma_tald (j := 3) (n := 16) dX1_threeToTwo_215 (by decide) tl_3 (by omega) (by omega) (by decide) ?_
  refine ma_cV [_, _, _] dX1_threeToTwo_216 wX8_join lX1_176 iX8_join sX8_join rfl (by first | exact vh_57 | exact vh_58 | exact (vh_n (by omega)).trans (by assumption) | exact ((ma_up_n (Ne.symm n6)).trans ((vh_n (by omega)).trans hc))) (Nat.le_of_ble_eq_true rfl) ?_
  rw [show (ma_tf 3 2 : Int) = sx 2 0 by decide +kernel]
  refine c_join_fan (x := 2) (y := 0) ((ma_up_n (Ne.symm n6)).trans ((vh_n (by omega)).trans hc)) (ma_up_s _ _ _) (Ne.symm n6) (by constructor <;> omega) (by constructor <;> omega) (by decide) (by decide) ?_
  rw [ma_up_up]
  exact ma_vret dX1_threeToTwo_219 rfl (K H T hL)
set_option maxHeartbeats 2000000 in
theorem c_X1_three03 {h : ma_H} {b g c e nx d : Nat} {t u k : Int} {G C H T : Int → Int} {Q : Option ma_V → ma_H → Nat → Prop} (hm : h 54 = co 1 [vr 44, vr 39, vr 55, vr 57, vr 58]) (hb : h b = co 8 [vi t, vr g]) (hg : h g = ci 32 G) (hc : h c = co 8 [vi u, vr e]) (he : h e = ci 32 C) (nb : b ≠ 57 ∧ b ≠ 58) (ng : g ≠ 57 ∧ g ≠ 58) (nc : c ≠ 57 ∧ c ≠ 58) (ne : e ≠ 57 ∧ e ≠ 58 ∧ e ≠ 54) (n2 : e ≠ b) (n3 : e ≠ g) (n6 : e ≠ c) (hG : VG t G) (hk : 0 ≤ k ∧ k < 16 * t) (hu : k / 4 % 4 = 0) (hv : k % 4 = 3) (hgl : ∀ x, 0 ≤ x → x < 4 → x ≠ k / 4 % 4 → x ≠ k % 4 → 0 ≤ G (4 * (k / 16) + x) ∧ G (4 * (k / 16) + x) < 256 ∧ 0 ≤ G (4 * (k / 16) + x) % 32 ∧ G (4 * (k / 16) + x) % 32 < 24 ∧ G (4 * (k / 16) + x) / 32 < t) (h3 : k / 16 ≠ G (4 * (k / 16) + 1) / 32 ∧ k / 16 ≠ G (4 * (k / 16) + 2) / 32 ∧ G (4 * (k / 16) + 1) / 32 ≠ G (4 * (k / 16) + 2) / 32) (K : ∀ H T, (∀ j, 0 ≤ j → j < 4 * t → H j = lo (fun i => (i = k / 16 ∨ i = G (4 * (k / 16) + 1) / 32) ∨ i = G (4 * (k / 16) + 2) / 32) j ∧ T j = 0) → Q none (ma_up (vh h (uf (uf (uf (uf (uf (uf H (4 * (k / 16) + 3) (t - 3)) (4 * (k / 16) + 0) (t - 3 + 1)) (4 * (G (4 * (k / 16) + 1) / 32) + im (G (4 * (k / 16) + 1) % 32) 3) (t - 3)) (4 * (G (4 * (k / 16) + 1) / 32) + im (G (4 * (k / 16) + 1) % 32) 0) (t - 3 + 1)) (4 * (G (4 * (k / 16) + 2) / 32) + im (G (4 * (k / 16) + 2) % 32) 3) (t - 3)) (4 * (G (4 * (k / 16) + 2) / 32) + im (G (4 * (k / 16) + 2) % 32) 0) (t - 3 + 1)) (uf (uf (uf (uf (uf (uf T (4 * (k / 16) + 3) (0)) (4 * (k / 16) + 0) (0)) (4 * (G (4 * (k / 16) + 1) / 32) + im (G (4 * (k / 16) + 1) % 32) 3) (af (sx 1 3) (iv (G (4 * (k / 16) + 1) % 32)))) (4 * (G (4 * (k / 16) + 1) / 32) + im (G (4 * (k / 16) + 1) % 32) 0) (af (sx 1 0) (iv (G (4 * (k / 16) + 1) % 32)))) (4 * (G (4 * (k / 16) + 2) / 32) + im (G (4 * (k / 16) + 2) % 32) 3) (af (sx 2 3) (iv (G (4 * (k / 16) + 2) % 32)))) (4 * (G (4 * (k / 16) + 2) / 32) + im (G (4 * (k / 16) + 2) % 32) 0) (af (sx 2 0) (iv (G (4 * (k / 16) + 2) % 32))))) e (ci 32 (fj (cy G (uf (uf (uf (uf (uf (uf H (4 * (k / 16) + 3) (t - 3)) (4 * (k / 16) + 0) (t - 3 + 1)) (4 * (G (4 * (k / 16) + 1) / 32) + im (G (4 * (k / 16) + 1) % 32) 3) (t - 3)) (4 * (G (4 * (k / 16) + 1) / 32) + im (G (4 * (k / 16) + 1) % 32) 0) (t - 3 + 1)) (4 * (G (4 * (k / 16) + 2) / 32) + im (G (4 * (k / 16) + 2) % 32) 3) (t - 3)) (4 * (G (4 * (k / 16) + 2) / 32) + im (G (4 * (k / 16) + 2) % 32) 0) (t - 3 + 1)) (uf (uf (uf (uf (uf (uf T (4 * (k / 16) + 3) (0)) (4 * (k / 16) + 0) (0)) (4 * (G (4 * (k / 16) + 1) / 32) + im (G (4 * (k / 16) + 1) % 32) 3) (af (sx 1 3) (iv (G (4 * (k / 16) + 1) % 32)))) (4 * (G (4 * (k / 16) + 1) / 32) + im (G (4 * (k / 16) + 1) % 32) 0) (af (sx 1 0) (iv (G (4 * (k / 16) + 1) % 32)))) (4 * (G (4 * (k / 16) + 2) / 32) + im (G (4 * (k / 16) + 2) % 32) 3) (af (sx 2 3) (iv (G (4 * (k / 16) + 2) % 32)))) (4 * (G (4 * (k / 16) + 2) / 32) + im (G (4 * (k / 16) + 2) % 32) 0) (af (sx 2 0) (iv (G (4 * (k / 16) + 2) % 32)))) C (4 * t).toNat) (t - 3) (t - 3 + 1) 3 0))) nx) : ma_Ct mX1_threeToTwo (d + 2) 0 0 [vr 54, vr b, vi k, vr c] (vh h H T) nx Q := by
  have ht := hG.1
  have g1 := hgl 1 (by decide) (by decide) (by omega) (by omega)
  have i1 := iv_in g1.2.2.1 g1.2.2.2.1
  have b1 := im_in g1.2.2.1 g1.2.2.2.1 (show (0 : Int) ≤ 3 by decide) (by decide)
  have d1 := im_in g1.2.2.1 g1.2.2.2.1 (show (0 : Int) ≤ 0 by decide) (by decide)
  have a1 := af_in (sx_ok (i := 1) (j := 3) (by decide) (by decide) (by decide) (by decide)).1 (sx_ok (i := 1) (j := 3) (by decide) (by decide) (by decide) (by decide)).2.1 i1.1 i1.2
  have c1 := af_in (sx_ok (i := 1) (j := 0) (by decide) (by decide) (by decide) (by decide)).1 (sx_ok (i := 1) (j := 0) (by decide) (by decide) (by decide) (by decide)).2.1 i1.1 i1.2
  have g2 := hgl 2 (by decide) (by decide) (by omega) (by omega)
  have i2 := iv_in g2.2.2.1 g2.2.2.2.1
  have b2 := im_in g2.2.2.1 g2.2.2.2.1 (show (0 : Int) ≤ 3 by decide) (by decide)
  have d2 := im_in g2.2.2.1 g2.2.2.2.1 (show (0 : Int) ≤ 0 by decide) (by decide)
  have a2 := af_in (sx_ok (i := 2) (j := 3) (by decide) (by decide) (by decide) (by decide)).1 (sx_ok (i := 2) (j := 3) (by decide) (by decide) (by decide) (by decide)).2.1 i2.1 i2.2
  have c2 := af_in (sx_ok (i := 2) (j := 0) (by decide) (by decide) (by decide) (by decide)).1 (sx_ok (i := 2) (j := 0) (by decide) (by decide) (by decide) (by decide)).2.1 i2.1 i2.2
  refine ma_Ct.of (by decide +kernel) (Nat.le_of_ble_eq_true rfl) ?_
  refine ma_iload_n dX1_threeToTwo_0 rfl ?_
  refine ma_iconst dX1_threeToTwo_1 ?_
  refine ma_kshr 16 dX1_threeToTwo_2 (by decide) (by constructor <;> omega) ?_
  refine ma_istoreN dX1_threeToTwo_3 (by decide) rfl ?_
  refine ma_iload_n dX1_threeToTwo_5 rfl ?_
  refine ma_iconst dX1_threeToTwo_6 ?_
  refine ma_kshr 4 dX1_threeToTwo_7 (by decide) (by constructor <;> omega) ?_
  refine ma_iconst dX1_threeToTwo_8 ?_
  refine ma_kand 2 4 dX1_threeToTwo_9 (by decide) (by decide +kernel) (by decide) ?_
  rw [hu]
  refine ma_istoreN dX1_threeToTwo_10 (by decide) rfl ?_
  refine ma_iload_n dX1_threeToTwo_12 rfl ?_
  refine ma_iconst dX1_threeToTwo_13 ?_
  refine ma_kand 2 4 dX1_threeToTwo_14 (by decide) (by decide +kernel) (by decide) ?_
  rw [hv]
  refine ma_istoreN dX1_threeToTwo_15 (by decide) rfl ?_
  refine ma_iconst dX1_threeToTwo_17 ?_
  refine ma_iload dX1_threeToTwo_18 rfl ?_
  refine ma_ishl dX1_threeToTwo_20 ?_
  refine ma_istoreN dX1_threeToTwo_21 (by decide) rfl ?_
  refine ma_iconst dX1_threeToTwo_23 ?_
  refine ma_istoreN dX1_threeToTwo_24 (by decide) rfl ?_
  show ma_J none mX1_threeToTwo (d + 2) 0 0 26 [some (vr 54), some (vr b), some (vi k), some (vr c), some (vi (k / 16)), some (vi 0), some (vi 3), _, some (vi 0), _] [] _ nx Q
  refine ma_iload dX1_threeToTwo_26 rfl ?_
  refine ma_iconst dX1_threeToTwo_28 ?_
  refine ma_rcmp_ge 73 dX1_threeToTwo_29 rfl (by decide) (by decide) (fun c29 => absurd c29 (by decide)) (fun c29 => ?_)
  refine ma_iload dX1_threeToTwo_32 rfl ?_
  refine ma_iload dX1_threeToTwo_34 rfl ?_
  refine ma_rcmp_eq 67 dX1_threeToTwo_36 rfl (by decide) (by decide) (fun c36 => ?_) (fun c36 => absurd c36 (by decide))
  refine ma_iincK (1) dX1_threeToTwo_67 rfl (by decide) rfl (by decide) ?_
  refine ma_goto 26 dX1_threeToTwo_70 rfl ?_
  show ma_J none mX1_threeToTwo (d + 2) 0 0 26 [some (vr 54), some (vr b), some (vi k), some (vr c), some (vi (k / 16)), some (vi 0), some (vi 3), _, some (vi 1), _] [] _ nx Q
  refine ma_iload dX1_threeToTwo_26 rfl ?_
  refine ma_iconst dX1_threeToTwo_28 ?_
  refine ma_rcmp_ge 73 dX1_threeToTwo_29 rfl (by decide) (by decide) (fun c29 => absurd c29 (by decide)) (fun c29 => ?_)
  refine ma_iload dX1_threeToTwo_32 rfl ?_
  refine ma_iload dX1_threeToTwo_34 rfl ?_
  refine ma_rcmp_eq 67 dX1_threeToTwo_36 rfl (by decide) (by decide) (fun c36 => absurd c36 (by decide)) (fun c36 => ?_)
  refine ma_iload dX1_threeToTwo_39 rfl ?_
  refine ma_iload dX1_threeToTwo_41 rfl ?_
  refine ma_rcmp_eq 67 dX1_threeToTwo_43 rfl (by decide) (by decide) (fun c43 => absurd c43 (by decide)) (fun c43 => ?_)
  refine ma_iload dX1_threeToTwo_46 rfl ?_
  refine ma_iconst dX1_threeToTwo_48 ?_
  refine ma_aload_n dX1_threeToTwo_49 rfl ?_
  refine ma_getf dX1_threeToTwo_50 fX1_92 (by first | exact vh_57 | exact vh_58 | exact (vh_n (by omega)).trans (by assumption) | exact ((ma_up_n (Ne.symm n6)).trans ((vh_n (by omega)).trans hc))) (by rfl) ?_
  refine ma_iconst dX1_threeToTwo_53 ?_
  refine ma_iload dX1_threeToTwo_54 rfl ?_
  refine ma_imul dX1_threeToTwo_56 ?_
  refine ma_iload dX1_threeToTwo_57 rfl ?_
  refine ma_iadd dX1_threeToTwo_59 ?_
  refine ma_iald dX1_threeToTwo_60 (by first | exact vh_57 | exact vh_58 | exact (vh_n (by omega)).trans (by assumption) | exact ((ma_up_n (Ne.symm n6)).trans ((vh_n (by omega)).trans hc))) (by omega) (by omega) (by omega) ?_
  refine ma_iconst dX1_threeToTwo_61 ?_
  refine ma_kshr 32 dX1_threeToTwo_62 (by decide) (by constructor <;> omega) ?_
  refine ma_ishl dX1_threeToTwo_63 ?_
  refine ma_ior dX1_threeToTwo_64 ?_
  refine ma_istoreN dX1_threeToTwo_65 (by decide) rfl ?_
  refine ma_iincK (2) dX1_threeToTwo_67 rfl (by decide) rfl (by decide) ?_
  refine ma_goto 26 dX1_threeToTwo_70 rfl ?_
  show ma_J none mX1_threeToTwo (d + 2) 0 0 26 [some (vr 54), some (vr b), some (vi k), some (vr c), some (vi (k / 16)), some (vi 0), some (vi 3), _, some (vi 2), _] [] _ nx Q
  refine ma_iload dX1_threeToTwo_26 rfl ?_
  refine ma_iconst dX1_threeToTwo_28 ?_
  refine ma_rcmp_ge 73 dX1_threeToTwo_29 rfl (by decide) (by decide) (fun c29 => absurd c29 (by decide)) (fun c29 => ?_)
  refine ma_iload dX1_threeToTwo_32 rfl ?_
  refine ma_iload dX1_threeToTwo_34 rfl ?_
  refine ma_rcmp_eq 67 dX1_threeToTwo_36 rfl (by decide) (by decide) (fun c36 => absurd c36 (by decide)) (fun c36 => ?_)
  refine ma_iload dX1_threeToTwo_39 rfl ?_
  refine ma_iload dX1_threeToTwo_41 rfl ?_
  refine ma_rcmp_eq 67 dX1_threeToTwo_43 rfl (by decide) (by decide) (fun c43 => absurd c43 (by decide)) (fun c43 => ?_)
  refine ma_iload dX1_threeToTwo_46 rfl ?_
  refine ma_iconst dX1_threeToTwo_48 ?_
  refine ma_aload_n dX1_threeToTwo_49 rfl ?_
  refine ma_getf dX1_threeToTwo_50 fX1_92 (by first | exact vh_57 | exact vh_58 | exact (vh_n (by omega)).trans (by assumption) | exact ((ma_up_n (Ne.symm n6)).trans ((vh_n (by omega)).trans hc))) (by rfl) ?_
  refine ma_iconst dX1_threeToTwo_53 ?_
  refine ma_iload dX1_threeToTwo_54 rfl ?_
  refine ma_imul dX1_threeToTwo_56 ?_
  refine ma_iload dX1_threeToTwo_57 rfl ?_
  refine ma_iadd dX1_threeToTwo_59 ?_
  refine ma_iald dX1_threeToTwo_60 (by first | exact vh_57 | exact vh_58 | exact (vh_n (by omega)).trans (by assumption) | exact ((ma_up_n (Ne.symm n6)).trans ((vh_n (by omega)).trans hc))) (by omega) (by omega) (by omega) ?_
  refine ma_iconst dX1_threeToTwo_61 ?_
  refine ma_kshr 32 dX1_threeToTwo_62 (by decide) (by constructor <;> omega) ?_
  refine ma_ishl dX1_threeToTwo_63 ?_
  refine ma_ior dX1_threeToTwo_64 ?_
  refine ma_istoreN dX1_threeToTwo_65 (by decide) rfl ?_
  refine ma_iincK (3) dX1_threeToTwo_67 rfl (by decide) rfl (by decide) ?_
  refine ma_goto 26 dX1_threeToTwo_70 rfl ?_
  show ma_J none mX1_threeToTwo (d + 2) 0 0 26 [some (vr 54), some (vr b), some (vi k), some (vr c), some (vi (k / 16)), some (vi 0), some (vi 3), _, some (vi 3), _] [] _ nx Q
  refine ma_iload dX1_threeToTwo_26 rfl ?_
  refine ma_iconst dX1_threeToTwo_28 ?_
  refine ma_rcmp_ge 73 dX1_threeToTwo_29 rfl (by decide) (by decide) (fun c29 => absurd c29 (by decide)) (fun c29 => ?_)
  refine ma_iload dX1_threeToTwo_32 rfl ?_
  refine ma_iload dX1_threeToTwo_34 rfl ?_
  refine ma_rcmp_eq 67 dX1_threeToTwo_36 rfl (by decide) (by decide) (fun c36 => absurd c36 (by decide)) (fun c36 => ?_)
  refine ma_iload dX1_threeToTwo_39 rfl ?_
  refine ma_iload dX1_threeToTwo_41 rfl ?_
  refine ma_rcmp_eq 67 dX1_threeToTwo_43 rfl (by decide) (by decide) (fun c43 => ?_) (fun c43 => absurd c43 (by decide))
  refine ma_iincK (4) dX1_threeToTwo_67 rfl (by decide) rfl (by decide) ?_
  refine ma_goto 26 dX1_threeToTwo_70 rfl ?_
  show ma_J none mX1_threeToTwo (d + 2) 0 0 26 [some (vr 54), some (vr b), some (vi k), some (vr c), some (vi (k / 16)), some (vi 0), some (vi 3), _, some (vi 4), _] [] _ nx Q
  refine ma_iload dX1_threeToTwo_26 rfl ?_
  refine ma_iconst dX1_threeToTwo_28 ?_
  refine ma_rcmp_ge 73 dX1_threeToTwo_29 rfl (by decide) (by decide) (fun c29 => ?_) (fun c29 => absurd c29 (by decide))
  refine ma_aload_n dX1_threeToTwo_73 rfl ?_
  refine ma_aload_n dX1_threeToTwo_74 rfl ?_
  refine ma_iload dX1_threeToTwo_75 rfl ?_
  refine ma_cV [_, _] dX1_threeToTwo_77 wX1_layOut lX1_154 iX1_layOut sX1_layOut rfl (by first | exact vh_57 | exact vh_58 | exact (vh_n (by omega)).trans (by assumption) | exact ((ma_up_n (Ne.symm n6)).trans ((vh_n (by omega)).trans hc))) (Nat.le_of_ble_eq_true rfl) ?_
  refine c_X1_layOut (S := fun i => (i = k / 16 ∨ i = G (4 * (k / 16) + 1) / 32) ∨ i = G (4 * (k / 16) + 2) / 32) hm hb nb (by omega) (mk_or (mk_or (mk_1 (by omega) (by omega)) (by omega) (by omega)) (by omega) (by omega)) (fun H T hL => ?_)
  rw [sty_3 (by omega) (by omega) (by omega) (by omega) (by omega) (by omega) (by omega) (by omega) (by omega)]
  refine ma_istoreN dX1_threeToTwo_80 (by decide) rfl ?_
  refine ma_aload_n dX1_threeToTwo_82 rfl ?_
  refine ma_iconst dX1_threeToTwo_83 ?_
  refine ma_iload dX1_threeToTwo_84 rfl ?_
  refine ma_imul dX1_threeToTwo_86 ?_
  refine ma_iload dX1_threeToTwo_87 rfl ?_
  refine ma_iadd dX1_threeToTwo_89 ?_
  refine ma_iload dX1_threeToTwo_90 rfl ?_
  refine ma_iconst dX1_threeToTwo_92 ?_
  refine ma_cV [_, _, _] dX1_threeToTwo_93 wX1_put lX1_157 iX1_put sX1_put rfl (by first | exact vh_57 | exact vh_58 | exact (vh_n (by omega)).trans (by assumption) | exact ((ma_up_n (Ne.symm n6)).trans ((vh_n (by omega)).trans hc))) (Nat.le_of_ble_eq_true rfl) ?_
  refine c_X1_put hm (by constructor <;> omega) ?_
  refine ma_aload_n dX1_threeToTwo_96 rfl ?_
  refine ma_iconst dX1_threeToTwo_97 ?_
  refine ma_iload dX1_threeToTwo_98 rfl ?_
  refine ma_imul dX1_threeToTwo_100 ?_
  refine ma_iload dX1_threeToTwo_101 rfl ?_
  refine ma_iadd dX1_threeToTwo_103 ?_
  refine ma_iload dX1_threeToTwo_104 rfl ?_
  refine ma_iconst dX1_threeToTwo_106 ?_
  refine ma_iadd dX1_threeToTwo_107 ?_
  refine ma_iconst dX1_threeToTwo_108 ?_
  refine ma_cV [_, _, _] dX1_threeToTwo_109 wX1_put lX1_157 iX1_put sX1_put rfl (by first | exact vh_57 | exact vh_58 | exact (vh_n (by omega)).trans (by assumption) | exact ((ma_up_n (Ne.symm n6)).trans ((vh_n (by omega)).trans hc))) (Nat.le_of_ble_eq_true rfl) ?_
  refine c_X1_put hm (by constructor <;> omega) ?_
  refine ma_iconst dX1_threeToTwo_112 ?_
  refine ma_istoreN dX1_threeToTwo_113 (by decide) rfl ?_
  show ma_J none mX1_threeToTwo (d + 2) 0 0 115 [some (vr 54), some (vr b), some (vi k), some (vr c), some (vi (k / 16)), some (vi 0), some (vi 3), _, some (vi (t - 3)), some (vi 0)] [] _ nx Q
  refine ma_iload dX1_threeToTwo_115 rfl ?_
  refine ma_iconst dX1_threeToTwo_117 ?_
  refine ma_rcmp_ge 187 dX1_threeToTwo_118 rfl (by decide) (by decide) (fun c118 => absurd c118 (by decide)) (fun c118 => ?_)
  refine ma_iload dX1_threeToTwo_121 rfl ?_
  refine ma_iload dX1_threeToTwo_123 rfl ?_
  refine ma_rcmp_eq 181 dX1_threeToTwo_125 rfl (by decide) (by decide) (fun c125 => ?_) (fun c125 => absurd c125 (by decide))
  refine ma_iincK (1) dX1_threeToTwo_181 rfl (by decide) rfl (by decide) ?_
  refine ma_goto 115 dX1_threeToTwo_184 rfl ?_
  show ma_J none mX1_threeToTwo (d + 2) 0 0 115 [some (vr 54), some (vr b), some (vi k), some (vr c), some (vi (k / 16)), some (vi 0), some (vi 3), _, some (vi (t - 3)), some (vi 1)] [] _ nx Q
  refine ma_iload dX1_threeToTwo_115 rfl ?_
  refine ma_iconst dX1_threeToTwo_117 ?_
  refine ma_rcmp_ge 187 dX1_threeToTwo_118 rfl (by decide) (by decide) (fun c118 => absurd c118 (by decide)) (fun c118 => ?_)
  refine ma_iload dX1_threeToTwo_121 rfl ?_
  refine ma_iload dX1_threeToTwo_123 rfl ?_
  refine ma_rcmp_eq 181 dX1_threeToTwo_125 rfl (by decide) (by decide) (fun c125 => absurd c125 (by decide)) (fun c125 => ?_)
  refine ma_iload dX1_threeToTwo_128 rfl ?_
  refine ma_iload dX1_threeToTwo_130 rfl ?_
  refine ma_rcmp_eq 181 dX1_threeToTwo_132 rfl (by decide) (by decide) (fun c132 => absurd c132 (by decide)) (fun c132 => ?_)
  refine ma_aload_n dX1_threeToTwo_135 rfl ?_
  refine ma_aload_n dX1_threeToTwo_136 rfl ?_
  refine ma_getf dX1_threeToTwo_137 fX1_92 (by first | exact vh_57 | exact vh_58 | exact (vh_n (by omega)).trans (by assumption) | exact ((ma_up_n (Ne.symm n6)).trans ((vh_n (by omega)).trans hc))) (by rfl) ?_
  refine ma_iconst dX1_threeToTwo_140 ?_
  refine ma_iload dX1_threeToTwo_141 rfl ?_
  refine ma_imul dX1_threeToTwo_143 ?_
  refine ma_iload dX1_threeToTwo_144 rfl ?_
  refine ma_iadd dX1_threeToTwo_146 ?_
  refine ma_iald dX1_threeToTwo_147 (by first | exact vh_57 | exact vh_58 | exact (vh_n (by omega)).trans (by assumption) | exact ((ma_up_n (Ne.symm n6)).trans ((vh_n (by omega)).trans hc))) (by omega) (by omega) (by omega) ?_
  refine ma_iload dX1_threeToTwo_148 rfl ?_
  refine ma_iload dX1_threeToTwo_150 rfl ?_
  refine ma_iload dX1_threeToTwo_152 rfl ?_
  refine ma_cV [_, _, _, _] dX1_threeToTwo_154 wX1_putBeyond lX1_161 iX1_putBeyond sX1_putBeyond rfl (by first | exact vh_57 | exact vh_58 | exact (vh_n (by omega)).trans (by assumption) | exact ((ma_up_n (Ne.symm n6)).trans ((vh_n (by omega)).trans hc))) (Nat.le_of_ble_eq_true rfl) ?_
  refine c_X1_putBeyond hm (by constructor <;> omega) (by omega) (by decide) (by decide) ?_
  refine ma_aload_n dX1_threeToTwo_157 rfl ?_
  refine ma_aload_n dX1_threeToTwo_158 rfl ?_
  refine ma_getf dX1_threeToTwo_159 fX1_92 (by first | exact vh_57 | exact vh_58 | exact (vh_n (by omega)).trans (by assumption) | exact ((ma_up_n (Ne.symm n6)).trans ((vh_n (by omega)).trans hc))) (by rfl) ?_
  refine ma_iconst dX1_threeToTwo_162 ?_
  refine ma_iload dX1_threeToTwo_163 rfl ?_
  refine ma_imul dX1_threeToTwo_165 ?_
  refine ma_iload dX1_threeToTwo_166 rfl ?_
  refine ma_iadd dX1_threeToTwo_168 ?_
  refine ma_iald dX1_threeToTwo_169 (by first | exact vh_57 | exact vh_58 | exact (vh_n (by omega)).trans (by assumption) | exact ((ma_up_n (Ne.symm n6)).trans ((vh_n (by omega)).trans hc))) (by omega) (by omega) (by omega) ?_
  refine ma_iload dX1_threeToTwo_170 rfl ?_
  refine ma_iload dX1_threeToTwo_172 rfl ?_
  refine ma_iload dX1_threeToTwo_174 rfl ?_
  refine ma_iconst dX1_threeToTwo_176 ?_
  refine ma_iadd dX1_threeToTwo_177 ?_
  refine ma_cV [_, _, _, _] dX1_threeToTwo_178 wX1_putBeyond lX1_161 iX1_putBeyond sX1_putBeyond rfl (by first | exact vh_57 | exact vh_58 | exact (vh_n (by omega)).trans (by assumption) | exact ((ma_up_n (Ne.symm n6)).trans ((vh_n (by omega)).trans hc))) (Nat.le_of_ble_eq_true rfl) ?_
  refine c_X1_putBeyond hm (by constructor <;> omega) (by omega) (by decide) (by decide) ?_
  refine ma_iincK (2) dX1_threeToTwo_181 rfl (by decide) rfl (by decide) ?_
  refine ma_goto 115 dX1_threeToTwo_184 rfl ?_
  show ma_J none mX1_threeToTwo (d + 2) 0 0 115 [some (vr 54), some (vr b), some (vi k), some (vr c), some (vi (k / 16)), some (vi 0), some (vi 3), _, some (vi (t - 3)), some (vi 2)] [] _ nx Q
  refine ma_iload dX1_threeToTwo_115 rfl ?_
  refine ma_iconst dX1_threeToTwo_117 ?_
  refine ma_rcmp_ge 187 dX1_threeToTwo_118 rfl (by decide) (by decide) (fun c118 => absurd c118 (by decide)) (fun c118 => ?_)
  refine ma_iload dX1_threeToTwo_121 rfl ?_
  refine ma_iload dX1_threeToTwo_123 rfl ?_
  refine ma_rcmp_eq 181 dX1_threeToTwo_125 rfl (by decide) (by decide) (fun c125 => absurd c125 (by decide)) (fun c125 => ?_)
  refine ma_iload dX1_threeToTwo_128 rfl ?_
  refine ma_iload dX1_threeToTwo_130 rfl ?_
  refine ma_rcmp_eq 181 dX1_threeToTwo_132 rfl (by decide) (by decide) (fun c132 => absurd c132 (by decide)) (fun c132 => ?_)
  refine ma_aload_n dX1_threeToTwo_135 rfl ?_
  refine ma_aload_n dX1_threeToTwo_136 rfl ?_
  refine ma_getf dX1_threeToTwo_137 fX1_92 (by first | exact vh_57 | exact vh_58 | exact (vh_n (by omega)).trans (by assumption) | exact ((ma_up_n (Ne.symm n6)).trans ((vh_n (by omega)).trans hc))) (by rfl) ?_
  refine ma_iconst dX1_threeToTwo_140 ?_
  refine ma_iload dX1_threeToTwo_141 rfl ?_
  refine ma_imul dX1_threeToTwo_143 ?_
  refine ma_iload dX1_threeToTwo_144 rfl ?_
  refine ma_iadd dX1_threeToTwo_146 ?_
  refine ma_iald dX1_threeToTwo_147 (by first | exact vh_57 | exact vh_58 | exact (vh_n (by omega)).trans (by assumption) | exact ((ma_up_n (Ne.symm n6)).trans ((vh_n (by omega)).trans hc))) (by omega) (by omega) (by omega) ?_
  refine ma_iload dX1_threeToTwo_148 rfl ?_
  refine ma_iload dX1_threeToTwo_150 rfl ?_
  refine ma_iload dX1_threeToTwo_152 rfl ?_
  refine ma_cV [_, _, _, _] dX1_threeToTwo_154 wX1_putBeyond lX1_161 iX1_putBeyond sX1_putBeyond rfl (by first | exact vh_57 | exact vh_58 | exact (vh_n (by omega)).trans (by assumption) | exact ((ma_up_n (Ne.symm n6)).trans ((vh_n (by omega)).trans hc))) (Nat.le_of_ble_eq_true rfl) ?_
  refine c_X1_putBeyond hm (by constructor <;> omega) (by omega) (by decide) (by decide) ?_
  refine ma_aload_n dX1_threeToTwo_157 rfl ?_
  refine ma_aload_n dX1_threeToTwo_158 rfl ?_
  refine ma_getf dX1_threeToTwo_159 fX1_92 (by first | exact vh_57 | exact vh_58 | exact (vh_n (by omega)).trans (by assumption) | exact ((ma_up_n (Ne.symm n6)).trans ((vh_n (by omega)).trans hc))) (by rfl) ?_
  refine ma_iconst dX1_threeToTwo_162 ?_
  refine ma_iload dX1_threeToTwo_163 rfl ?_
  refine ma_imul dX1_threeToTwo_165 ?_
  refine ma_iload dX1_threeToTwo_166 rfl ?_
  refine ma_iadd dX1_threeToTwo_168 ?_
  refine ma_iald dX1_threeToTwo_169 (by first | exact vh_57 | exact vh_58 | exact (vh_n (by omega)).trans (by assumption) | exact ((ma_up_n (Ne.symm n6)).trans ((vh_n (by omega)).trans hc))) (by omega) (by omega) (by omega) ?_
  refine ma_iload dX1_threeToTwo_170 rfl ?_
  refine ma_iload dX1_threeToTwo_172 rfl ?_
  refine ma_iload dX1_threeToTwo_174 rfl ?_
  refine ma_iconst dX1_threeToTwo_176 ?_
  refine ma_iadd dX1_threeToTwo_177 ?_
  refine ma_cV [_, _, _, _] dX1_threeToTwo_178 wX1_putBeyond lX1_161 iX1_putBeyond sX1_putBeyond rfl (by first | exact vh_57 | exact vh_58 | exact (vh_n (by omega)).trans (by assumption) | exact ((ma_up_n (Ne.symm n6)).trans ((vh_n (by omega)).trans hc))) (Nat.le_of_ble_eq_true rfl) ?_
  refine c_X1_putBeyond hm (by constructor <;> omega) (by omega) (by decide) (by decide) ?_
  refine ma_iincK (3) dX1_threeToTwo_181 rfl (by decide) rfl (by decide) ?_
  refine ma_goto 115 dX1_threeToTwo_184 rfl ?_
  show ma_J none mX1_threeToTwo (d + 2) 0 0 115 [some (vr 54), some (vr b), some (vi k), some (vr c), some (vi (k / 16)), some (vi 0), some (vi 3), _, some (vi (t - 3)), some (vi 3)] [] _ nx Q
  refine ma_iload dX1_threeToTwo_115 rfl ?_
  refine ma_iconst dX1_threeToTwo_117 ?_
  refine ma_rcmp_ge 187 dX1_threeToTwo_118 rfl (by decide) (by decide) (fun c118 => absurd c118 (by decide)) (fun c118 => ?_)
  refine ma_iload dX1_threeToTwo_121 rfl ?_
  refine ma_iload dX1_threeToTwo_123 rfl ?_
  refine ma_rcmp_eq 181 dX1_threeToTwo_125 rfl (by decide) (by decide) (fun c125 => absurd c125 (by decide)) (fun c125 => ?_)
  refine ma_iload dX1_threeToTwo_128 rfl ?_
  refine ma_iload dX1_threeToTwo_130 rfl ?_
  refine ma_rcmp_eq 181 dX1_threeToTwo_132 rfl (by decide) (by decide) (fun c132 => ?_) (fun c132 => absurd c132 (by decide))
  refine ma_iincK (4) dX1_threeToTwo_181 rfl (by decide) rfl (by decide) ?_
  refine ma_goto 115 dX1_threeToTwo_184 rfl ?_
  show ma_J none mX1_threeToTwo (d + 2) 0 0 115 [some (vr 54), some (vr b), some (vi k), some (vr c), some (vi (k / 16)), some (vi 0), some (vi 3), _, some (vi (t - 3)), some (vi 4)] [] _ nx Q
  refine ma_iload dX1_threeToTwo_115 rfl ?_
  refine ma_iconst dX1_threeToTwo_117 ?_
  refine ma_rcmp_ge 187 dX1_threeToTwo_118 rfl (by decide) (by decide) (fun c118 => ?_) (fun c118 => absurd c118 (by decide))
  refine ma_aload_n dX1_threeToTwo_187 rfl ?_
  refine ma_aload_n dX1_threeToTwo_188 rfl ?_
  refine ma_aload_n dX1_threeToTwo_189 rfl ?_
  refine ma_cV [_, _] dX1_threeToTwo_190 wX1_carry lX1_165 iX1_carry sX1_carry rfl (by first | exact vh_57 | exact vh_58 | exact (vh_n (by omega)).trans (by assumption) | exact ((ma_up_n (Ne.symm n6)).trans ((vh_n (by omega)).trans hc))) (Nat.le_of_ble_eq_true rfl) ?_
  refine c_X1_carry ((vh_n (by omega)).trans hm) ((vh_n (by omega)).trans hb) ((vh_n (by omega)).trans hg) vh_57 vh_58 ((vh_n (by omega)).trans hc) ne.2.2 n2 n3 ne.1 ne.2.1 n6 hG (uf_r (uf_r (uf_r (uf_r (uf_r (uf_r (fun j j0 j1 => by rw [(hL j j0 j1).1]; exact lo_in _ (by omega) j j0 j1) (by constructor <;> omega)) (by constructor <;> omega)) (by constructor <;> omega)) (by constructor <;> omega)) (by constructor <;> omega)) (by constructor <;> omega)) (uf_r (uf_r (uf_r (uf_r (uf_r (uf_r (fun j j0 j1 => by have := (hL j j0 j1).2; omega) (by decide)) (by decide)) a1) c1) a2) c2) ((vh_n (by omega)).trans he) ?_
  refine ma_aload_n dX1_threeToTwo_193 rfl ?_
  refine ma_iconst dX1_threeToTwo_194 ?_
  refine ma_iload dX1_threeToTwo_195 rfl ?_
  refine ma_imul dX1_threeToTwo_197 ?_
  refine ma_iload dX1_threeToTwo_198 rfl ?_
  refine ma_iadd dX1_threeToTwo_200 ?_
  refine ma_iload dX1_threeToTwo_201 rfl ?_
  refine ma_iconst dX1_threeToTwo_203 ?_
  refine ma_iadd dX1_threeToTwo_204 ?_
  refine ma_getsN (j := 3) dX1_threeToTwo_205 (by decide) gX1_173 ?_
  refine ma_iconst dX1_threeToTwo_208 ?_
  refine ma_iload dX1_threeToTwo_209 rfl ?_
  refine ma_imulK (0) dX1_threeToTwo_211 (by decide) ?_
  refine ma_iload dX1_threeToTwo_212 rfl ?_
  refine ma_iaddK (3) dX1_threeToTwo_214 (by decide) ?_
  refine ma_tald (j := 3) (n := 16) dX1_threeToTwo_215 (by decide) tl_3 (by omega) (by omega) (by decide) ?_
  refine ma_cV [_, _, _] dX1_threeToTwo_216 wX8_join lX1_176 iX8_join sX8_join rfl (by first | exact vh_57 | exact vh_58 | exact (vh_n (by omega)).trans (by assumption) | exact ((ma_up_n (Ne.symm n6)).trans ((vh_n (by omega)).trans hc))) (Nat.le_of_ble_eq_true rfl) ?_
  rw [show (ma_tf 3 3 : Int) = sx 3 0 by decide +kernel]
  refine c_join_fan (x := 3) (y := 0) ((ma_up_n (Ne.symm n6)).trans ((vh_n (by omega)).trans hc)) (ma_up_s _ _ _) (Ne.symm n6) (by constructor <;> omega) (by constructor <;> omega) (by decide) (by decide) ?_
  rw [ma_up_up]
  exact ma_vret dX1_threeToTwo_219 rfl (K H T hL)
set_option maxHeartbeats 2000000 in
theorem c_X1_three12 {h : ma_H} {b g c e nx d : Nat} {t u k : Int} {G C H T : Int → Int} {Q : Option ma_V → ma_H → Nat → Prop} (hm : h 54 = co 1 [vr 44, vr 39, vr 55, vr 57, vr 58]) (hb : h b = co 8 [vi t, vr g]) (hg : h g = ci 32 G) (hc : h c = co 8 [vi u, vr e]) (he : h e = ci 32 C) (nb : b ≠ 57 ∧ b ≠ 58) (ng : g ≠ 57 ∧ g ≠ 58) (nc : c ≠ 57 ∧ c ≠ 58) (ne : e ≠ 57 ∧ e ≠ 58 ∧ e ≠ 54) (n2 : e ≠ b) (n3 : e ≠ g) (n6 : e ≠ c) (hG : VG t G) (hk : 0 ≤ k ∧ k < 16 * t) (hu : k / 4 % 4 = 1) (hv : k % 4 = 2) (hgl : ∀ x, 0 ≤ x → x < 4 → x ≠ k / 4 % 4 → x ≠ k % 4 → 0 ≤ G (4 * (k / 16) + x) ∧ G (4 * (k / 16) + x) < 256 ∧ 0 ≤ G (4 * (k / 16) + x) % 32 ∧ G (4 * (k / 16) + x) % 32 < 24 ∧ G (4 * (k / 16) + x) / 32 < t) (h3 : k / 16 ≠ G (4 * (k / 16) + 0) / 32 ∧ k / 16 ≠ G (4 * (k / 16) + 3) / 32 ∧ G (4 * (k / 16) + 0) / 32 ≠ G (4 * (k / 16) + 3) / 32) (K : ∀ H T, (∀ j, 0 ≤ j → j < 4 * t → H j = lo (fun i => (i = k / 16 ∨ i = G (4 * (k / 16) + 0) / 32) ∨ i = G (4 * (k / 16) + 3) / 32) j ∧ T j = 0) → Q none (ma_up (vh h (uf (uf (uf (uf (uf (uf H (4 * (k / 16) + 2) (t - 3)) (4 * (k / 16) + 1) (t - 3 + 1)) (4 * (G (4 * (k / 16) + 0) / 32) + im (G (4 * (k / 16) + 0) % 32) 2) (t - 3)) (4 * (G (4 * (k / 16) + 0) / 32) + im (G (4 * (k / 16) + 0) % 32) 1) (t - 3 + 1)) (4 * (G (4 * (k / 16) + 3) / 32) + im (G (4 * (k / 16) + 3) % 32) 2) (t - 3)) (4 * (G (4 * (k / 16) + 3) / 32) + im (G (4 * (k / 16) + 3) % 32) 1) (t - 3 + 1)) (uf (uf (uf (uf (uf (uf T (4 * (k / 16) + 2) (0)) (4 * (k / 16) + 1) (0)) (4 * (G (4 * (k / 16) + 0) / 32) + im (G (4 * (k / 16) + 0) % 32) 2) (af (sx 0 2) (iv (G (4 * (k / 16) + 0) % 32)))) (4 * (G (4 * (k / 16) + 0) / 32) + im (G (4 * (k / 16) + 0) % 32) 1) (af (sx 0 1) (iv (G (4 * (k / 16) + 0) % 32)))) (4 * (G (4 * (k / 16) + 3) / 32) + im (G (4 * (k / 16) + 3) % 32) 2) (af (sx 3 2) (iv (G (4 * (k / 16) + 3) % 32)))) (4 * (G (4 * (k / 16) + 3) / 32) + im (G (4 * (k / 16) + 3) % 32) 1) (af (sx 3 1) (iv (G (4 * (k / 16) + 3) % 32))))) e (ci 32 (fj (cy G (uf (uf (uf (uf (uf (uf H (4 * (k / 16) + 2) (t - 3)) (4 * (k / 16) + 1) (t - 3 + 1)) (4 * (G (4 * (k / 16) + 0) / 32) + im (G (4 * (k / 16) + 0) % 32) 2) (t - 3)) (4 * (G (4 * (k / 16) + 0) / 32) + im (G (4 * (k / 16) + 0) % 32) 1) (t - 3 + 1)) (4 * (G (4 * (k / 16) + 3) / 32) + im (G (4 * (k / 16) + 3) % 32) 2) (t - 3)) (4 * (G (4 * (k / 16) + 3) / 32) + im (G (4 * (k / 16) + 3) % 32) 1) (t - 3 + 1)) (uf (uf (uf (uf (uf (uf T (4 * (k / 16) + 2) (0)) (4 * (k / 16) + 1) (0)) (4 * (G (4 * (k / 16) + 0) / 32) + im (G (4 * (k / 16) + 0) % 32) 2) (af (sx 0 2) (iv (G (4 * (k / 16) + 0) % 32)))) (4 * (G (4 * (k / 16) + 0) / 32) + im (G (4 * (k / 16) + 0) % 32) 1) (af (sx 0 1) (iv (G (4 * (k / 16) + 0) % 32)))) (4 * (G (4 * (k / 16) + 3) / 32) + im (G (4 * (k / 16) + 3) % 32) 2) (af (sx 3 2) (iv (G (4 * (k / 16) + 3) % 32)))) (4 * (G (4 * (k / 16) + 3) / 32) + im (G (4 * (k / 16) + 3) % 32) 1) (af (sx 3 1) (iv (G (4 * (k / 16) + 3) % 32)))) C (4 * t).toNat) (t - 3) (t - 3 + 1) 2 1))) nx) : ma_Ct mX1_threeToTwo (d + 2) 0 0 [vr 54, vr b, vi k, vr c] (vh h H T) nx Q := by
  have ht := hG.1
  have g0 := hgl 0 (by decide) (by decide) (by omega) (by omega)
  have i0 := iv_in g0.2.2.1 g0.2.2.2.1
  have b0 := im_in g0.2.2.1 g0.2.2.2.1 (show (0 : Int) ≤ 2 by decide) (by decide)
  have d0 := im_in g0.2.2.1 g0.2.2.2.1 (show (0 : Int) ≤ 1 by decide) (by decide)
  have a0 := af_in (sx_ok (i := 0) (j := 2) (by decide) (by decide) (by decide) (by decide)).1 (sx_ok (i := 0) (j := 2) (by decide) (by decide) (by decide) (by decide)).2.1 i0.1 i0.2
  have c0 := af_in (sx_ok (i := 0) (j := 1) (by decide) (by decide) (by decide) (by decide)).1 (sx_ok (i := 0) (j := 1) (by decide) (by decide) (by decide) (by decide)).2.1 i0.1 i0.2
  have g3 := hgl 3 (by decide) (by decide) (by omega) (by omega)
  have i3 := iv_in g3.2.2.1 g3.2.2.2.1
  have b3 := im_in g3.2.2.1 g3.2.2.2.1 (show (0 : Int) ≤ 2 by decide) (by decide)
  have d3 := im_in g3.2.2.1 g3.2.2.2.1 (show (0 : Int) ≤ 1 by decide) (by decide)
  have a3 := af_in (sx_ok (i := 3) (j := 2) (by decide) (by decide) (by decide) (by decide)).1 (sx_ok (i := 3) (j := 2) (by decide) (by decide) (by decide) (by decide)).2.1 i3.1 i3.2
  have c3 := af_in (sx_ok (i := 3) (j := 1) (by decide) (by decide) (by decide) (by decide)).1 (sx_ok (i := 3) (j := 1) (by decide) (by decide) (by decide) (by decide)).2.1 i3.1 i3.2
  refine ma_Ct.of (by decide +kernel) (Nat.le_of_ble_eq_true rfl) ?_
  refine ma_iload_n dX1_threeToTwo_0 rfl ?_
  refine ma_iconst dX1_threeToTwo_1 ?_
  refine ma_kshr 16 dX1_threeToTwo_2 (by decide) (by constructor <;> omega) ?_
  refine ma_istoreN dX1_threeToTwo_3 (by decide) rfl ?_
  refine ma_iload_n dX1_threeToTwo_5 rfl ?_
  refine ma_iconst dX1_threeToTwo_6 ?_
  refine ma_kshr 4 dX1_threeToTwo_7 (by decide) (by constructor <;> omega) ?_
  refine ma_iconst dX1_threeToTwo_8 ?_
  refine ma_kand 2 4 dX1_threeToTwo_9 (by decide) (by decide +kernel) (by decide) ?_
  rw [hu]
  refine ma_istoreN dX1_threeToTwo_10 (by decide) rfl ?_
  refine ma_iload_n dX1_threeToTwo_12 rfl ?_
  refine ma_iconst dX1_threeToTwo_13 ?_
  refine ma_kand 2 4 dX1_threeToTwo_14 (by decide) (by decide +kernel) (by decide) ?_
  rw [hv]
  refine ma_istoreN dX1_threeToTwo_15 (by decide) rfl ?_
  refine ma_iconst dX1_threeToTwo_17 ?_
  refine ma_iload dX1_threeToTwo_18 rfl ?_
  refine ma_ishl dX1_threeToTwo_20 ?_
  refine ma_istoreN dX1_threeToTwo_21 (by decide) rfl ?_
  refine ma_iconst dX1_threeToTwo_23 ?_
  refine ma_istoreN dX1_threeToTwo_24 (by decide) rfl ?_
  show ma_J none mX1_threeToTwo (d + 2) 0 0 26 [some (vr 54), some (vr b), some (vi k), some (vr c), some (vi (k / 16)), some (vi 1), some (vi 2), _, some (vi 0), _] [] _ nx Q
  refine ma_iload dX1_threeToTwo_26 rfl ?_
  refine ma_iconst dX1_threeToTwo_28 ?_
  refine ma_rcmp_ge 73 dX1_threeToTwo_29 rfl (by decide) (by decide) (fun c29 => absurd c29 (by decide)) (fun c29 => ?_)
  refine ma_iload dX1_threeToTwo_32 rfl ?_
  refine ma_iload dX1_threeToTwo_34 rfl ?_
  refine ma_rcmp_eq 67 dX1_threeToTwo_36 rfl (by decide) (by decide) (fun c36 => absurd c36 (by decide)) (fun c36 => ?_)
  refine ma_iload dX1_threeToTwo_39 rfl ?_
  refine ma_iload dX1_threeToTwo_41 rfl ?_
  refine ma_rcmp_eq 67 dX1_threeToTwo_43 rfl (by decide) (by decide) (fun c43 => absurd c43 (by decide)) (fun c43 => ?_)
  refine ma_iload dX1_threeToTwo_46 rfl ?_
  refine ma_iconst dX1_threeToTwo_48 ?_
  refine ma_aload_n dX1_threeToTwo_49 rfl ?_
  refine ma_getf dX1_threeToTwo_50 fX1_92 (by first | exact vh_57 | exact vh_58 | exact (vh_n (by omega)).trans (by assumption) | exact ((ma_up_n (Ne.symm n6)).trans ((vh_n (by omega)).trans hc))) (by rfl) ?_
  refine ma_iconst dX1_threeToTwo_53 ?_
  refine ma_iload dX1_threeToTwo_54 rfl ?_
  refine ma_imul dX1_threeToTwo_56 ?_
  refine ma_iload dX1_threeToTwo_57 rfl ?_
  refine ma_iadd dX1_threeToTwo_59 ?_
  refine ma_iald dX1_threeToTwo_60 (by first | exact vh_57 | exact vh_58 | exact (vh_n (by omega)).trans (by assumption) | exact ((ma_up_n (Ne.symm n6)).trans ((vh_n (by omega)).trans hc))) (by omega) (by omega) (by omega) ?_
  refine ma_iconst dX1_threeToTwo_61 ?_
  refine ma_kshr 32 dX1_threeToTwo_62 (by decide) (by constructor <;> omega) ?_
  refine ma_ishl dX1_threeToTwo_63 ?_
  refine ma_ior dX1_threeToTwo_64 ?_
  refine ma_istoreN dX1_threeToTwo_65 (by decide) rfl ?_
  refine ma_iincK (1) dX1_threeToTwo_67 rfl (by decide) rfl (by decide) ?_
  refine ma_goto 26 dX1_threeToTwo_70 rfl ?_
  show ma_J none mX1_threeToTwo (d + 2) 0 0 26 [some (vr 54), some (vr b), some (vi k), some (vr c), some (vi (k / 16)), some (vi 1), some (vi 2), _, some (vi 1), _] [] _ nx Q
  refine ma_iload dX1_threeToTwo_26 rfl ?_
  refine ma_iconst dX1_threeToTwo_28 ?_
  refine ma_rcmp_ge 73 dX1_threeToTwo_29 rfl (by decide) (by decide) (fun c29 => absurd c29 (by decide)) (fun c29 => ?_)
  refine ma_iload dX1_threeToTwo_32 rfl ?_
  refine ma_iload dX1_threeToTwo_34 rfl ?_
  refine ma_rcmp_eq 67 dX1_threeToTwo_36 rfl (by decide) (by decide) (fun c36 => ?_) (fun c36 => absurd c36 (by decide))
  refine ma_iincK (2) dX1_threeToTwo_67 rfl (by decide) rfl (by decide) ?_
  refine ma_goto 26 dX1_threeToTwo_70 rfl ?_
  show ma_J none mX1_threeToTwo (d + 2) 0 0 26 [some (vr 54), some (vr b), some (vi k), some (vr c), some (vi (k / 16)), some (vi 1), some (vi 2), _, some (vi 2), _] [] _ nx Q
  refine ma_iload dX1_threeToTwo_26 rfl ?_
  refine ma_iconst dX1_threeToTwo_28 ?_
  refine ma_rcmp_ge 73 dX1_threeToTwo_29 rfl (by decide) (by decide) (fun c29 => absurd c29 (by decide)) (fun c29 => ?_)
  refine ma_iload dX1_threeToTwo_32 rfl ?_
  refine ma_iload dX1_threeToTwo_34 rfl ?_
  refine ma_rcmp_eq 67 dX1_threeToTwo_36 rfl (by decide) (by decide) (fun c36 => absurd c36 (by decide)) (fun c36 => ?_)
  refine ma_iload dX1_threeToTwo_39 rfl ?_
  refine ma_iload dX1_threeToTwo_41 rfl ?_
  refine ma_rcmp_eq 67 dX1_threeToTwo_43 rfl (by decide) (by decide) (fun c43 => ?_) (fun c43 => absurd c43 (by decide))
  refine ma_iincK (3) dX1_threeToTwo_67 rfl (by decide) rfl (by decide) ?_
  refine ma_goto 26 dX1_threeToTwo_70 rfl ?_
  show ma_J none mX1_threeToTwo (d + 2) 0 0 26 [some (vr 54), some (vr b), some (vi k), some (vr c), some (vi (k / 16)), some (vi 1), some (vi 2), _, some (vi 3), _] [] _ nx Q
  refine ma_iload dX1_threeToTwo_26 rfl ?_
  refine ma_iconst dX1_threeToTwo_28 ?_
  refine ma_rcmp_ge 73 dX1_threeToTwo_29 rfl (by decide) (by decide) (fun c29 => absurd c29 (by decide)) (fun c29 => ?_)
  refine ma_iload dX1_threeToTwo_32 rfl ?_
  refine ma_iload dX1_threeToTwo_34 rfl ?_
  refine ma_rcmp_eq 67 dX1_threeToTwo_36 rfl (by decide) (by decide) (fun c36 => absurd c36 (by decide)) (fun c36 => ?_)
  refine ma_iload dX1_threeToTwo_39 rfl ?_
  refine ma_iload dX1_threeToTwo_41 rfl ?_
  refine ma_rcmp_eq 67 dX1_threeToTwo_43 rfl (by decide) (by decide) (fun c43 => absurd c43 (by decide)) (fun c43 => ?_)
  refine ma_iload dX1_threeToTwo_46 rfl ?_
  refine ma_iconst dX1_threeToTwo_48 ?_
  refine ma_aload_n dX1_threeToTwo_49 rfl ?_
  refine ma_getf dX1_threeToTwo_50 fX1_92 (by first | exact vh_57 | exact vh_58 | exact (vh_n (by omega)).trans (by assumption) | exact ((ma_up_n (Ne.symm n6)).trans ((vh_n (by omega)).trans hc))) (by rfl) ?_
  refine ma_iconst dX1_threeToTwo_53 ?_
  refine ma_iload dX1_threeToTwo_54 rfl ?_
  refine ma_imul dX1_threeToTwo_56 ?_
  refine ma_iload dX1_threeToTwo_57 rfl ?_
  refine ma_iadd dX1_threeToTwo_59 ?_
  refine ma_iald dX1_threeToTwo_60 (by first | exact vh_57 | exact vh_58 | exact (vh_n (by omega)).trans (by assumption) | exact ((ma_up_n (Ne.symm n6)).trans ((vh_n (by omega)).trans hc))) (by omega) (by omega) (by omega) ?_
  refine ma_iconst dX1_threeToTwo_61 ?_
  refine ma_kshr 32 dX1_threeToTwo_62 (by decide) (by constructor <;> omega) ?_
  refine ma_ishl dX1_threeToTwo_63 ?_
  refine ma_ior dX1_threeToTwo_64 ?_
  refine ma_istoreN dX1_threeToTwo_65 (by decide) rfl ?_
  refine ma_iincK (4) dX1_threeToTwo_67 rfl (by decide) rfl (by decide) ?_
  refine ma_goto 26 dX1_threeToTwo_70 rfl ?_
  show ma_J none mX1_threeToTwo (d + 2) 0 0 26 [some (vr 54), some (vr b), some (vi k), some (vr c), some (vi (k / 16)), some (vi 1), some (vi 2), _, some (vi 4), _] [] _ nx Q
  refine ma_iload dX1_threeToTwo_26 rfl ?_
  refine ma_iconst dX1_threeToTwo_28 ?_
  refine ma_rcmp_ge 73 dX1_threeToTwo_29 rfl (by decide) (by decide) (fun c29 => ?_) (fun c29 => absurd c29 (by decide))
  refine ma_aload_n dX1_threeToTwo_73 rfl ?_
  refine ma_aload_n dX1_threeToTwo_74 rfl ?_
  refine ma_iload dX1_threeToTwo_75 rfl ?_
  refine ma_cV [_, _] dX1_threeToTwo_77 wX1_layOut lX1_154 iX1_layOut sX1_layOut rfl (by first | exact vh_57 | exact vh_58 | exact (vh_n (by omega)).trans (by assumption) | exact ((ma_up_n (Ne.symm n6)).trans ((vh_n (by omega)).trans hc))) (Nat.le_of_ble_eq_true rfl) ?_
  refine c_X1_layOut (S := fun i => (i = k / 16 ∨ i = G (4 * (k / 16) + 0) / 32) ∨ i = G (4 * (k / 16) + 3) / 32) hm hb nb (by omega) (mk_or (mk_or (mk_1 (by omega) (by omega)) (by omega) (by omega)) (by omega) (by omega)) (fun H T hL => ?_)
  rw [sty_3 (by omega) (by omega) (by omega) (by omega) (by omega) (by omega) (by omega) (by omega) (by omega)]
  refine ma_istoreN dX1_threeToTwo_80 (by decide) rfl ?_
  refine ma_aload_n dX1_threeToTwo_82 rfl ?_
  refine ma_iconst dX1_threeToTwo_83 ?_
  refine ma_iload dX1_threeToTwo_84 rfl ?_
  refine ma_imul dX1_threeToTwo_86 ?_
  refine ma_iload dX1_threeToTwo_87 rfl ?_
  refine ma_iadd dX1_threeToTwo_89 ?_
  refine ma_iload dX1_threeToTwo_90 rfl ?_
  refine ma_iconst dX1_threeToTwo_92 ?_
  refine ma_cV [_, _, _] dX1_threeToTwo_93 wX1_put lX1_157 iX1_put sX1_put rfl (by first | exact vh_57 | exact vh_58 | exact (vh_n (by omega)).trans (by assumption) | exact ((ma_up_n (Ne.symm n6)).trans ((vh_n (by omega)).trans hc))) (Nat.le_of_ble_eq_true rfl) ?_
  refine c_X1_put hm (by constructor <;> omega) ?_
  refine ma_aload_n dX1_threeToTwo_96 rfl ?_
  refine ma_iconst dX1_threeToTwo_97 ?_
  refine ma_iload dX1_threeToTwo_98 rfl ?_
  refine ma_imul dX1_threeToTwo_100 ?_
  refine ma_iload dX1_threeToTwo_101 rfl ?_
  refine ma_iadd dX1_threeToTwo_103 ?_
  refine ma_iload dX1_threeToTwo_104 rfl ?_
  refine ma_iconst dX1_threeToTwo_106 ?_
  refine ma_iadd dX1_threeToTwo_107 ?_
  refine ma_iconst dX1_threeToTwo_108 ?_
  refine ma_cV [_, _, _] dX1_threeToTwo_109 wX1_put lX1_157 iX1_put sX1_put rfl (by first | exact vh_57 | exact vh_58 | exact (vh_n (by omega)).trans (by assumption) | exact ((ma_up_n (Ne.symm n6)).trans ((vh_n (by omega)).trans hc))) (Nat.le_of_ble_eq_true rfl) ?_
  refine c_X1_put hm (by constructor <;> omega) ?_
  refine ma_iconst dX1_threeToTwo_112 ?_
  refine ma_istoreN dX1_threeToTwo_113 (by decide) rfl ?_
  show ma_J none mX1_threeToTwo (d + 2) 0 0 115 [some (vr 54), some (vr b), some (vi k), some (vr c), some (vi (k / 16)), some (vi 1), some (vi 2), _, some (vi (t - 3)), some (vi 0)] [] _ nx Q
  refine ma_iload dX1_threeToTwo_115 rfl ?_
  refine ma_iconst dX1_threeToTwo_117 ?_
  refine ma_rcmp_ge 187 dX1_threeToTwo_118 rfl (by decide) (by decide) (fun c118 => absurd c118 (by decide)) (fun c118 => ?_)
  refine ma_iload dX1_threeToTwo_121 rfl ?_
  refine ma_iload dX1_threeToTwo_123 rfl ?_
  refine ma_rcmp_eq 181 dX1_threeToTwo_125 rfl (by decide) (by decide) (fun c125 => absurd c125 (by decide)) (fun c125 => ?_)
  refine ma_iload dX1_threeToTwo_128 rfl ?_
  refine ma_iload dX1_threeToTwo_130 rfl ?_
  refine ma_rcmp_eq 181 dX1_threeToTwo_132 rfl (by decide) (by decide) (fun c132 => absurd c132 (by decide)) (fun c132 => ?_)
  refine ma_aload_n dX1_threeToTwo_135 rfl ?_
  refine ma_aload_n dX1_threeToTwo_136 rfl ?_
  refine ma_getf dX1_threeToTwo_137 fX1_92 (by first | exact vh_57 | exact vh_58 | exact (vh_n (by omega)).trans (by assumption) | exact ((ma_up_n (Ne.symm n6)).trans ((vh_n (by omega)).trans hc))) (by rfl) ?_
  refine ma_iconst dX1_threeToTwo_140 ?_
  refine ma_iload dX1_threeToTwo_141 rfl ?_
  refine ma_imul dX1_threeToTwo_143 ?_
  refine ma_iload dX1_threeToTwo_144 rfl ?_
  refine ma_iadd dX1_threeToTwo_146 ?_
  refine ma_iald dX1_threeToTwo_147 (by first | exact vh_57 | exact vh_58 | exact (vh_n (by omega)).trans (by assumption) | exact ((ma_up_n (Ne.symm n6)).trans ((vh_n (by omega)).trans hc))) (by omega) (by omega) (by omega) ?_
  refine ma_iload dX1_threeToTwo_148 rfl ?_
  refine ma_iload dX1_threeToTwo_150 rfl ?_
  refine ma_iload dX1_threeToTwo_152 rfl ?_
  refine ma_cV [_, _, _, _] dX1_threeToTwo_154 wX1_putBeyond lX1_161 iX1_putBeyond sX1_putBeyond rfl (by first | exact vh_57 | exact vh_58 | exact (vh_n (by omega)).trans (by assumption) | exact ((ma_up_n (Ne.symm n6)).trans ((vh_n (by omega)).trans hc))) (Nat.le_of_ble_eq_true rfl) ?_
  refine c_X1_putBeyond hm (by constructor <;> omega) (by omega) (by decide) (by decide) ?_
  refine ma_aload_n dX1_threeToTwo_157 rfl ?_
  refine ma_aload_n dX1_threeToTwo_158 rfl ?_
  refine ma_getf dX1_threeToTwo_159 fX1_92 (by first | exact vh_57 | exact vh_58 | exact (vh_n (by omega)).trans (by assumption) | exact ((ma_up_n (Ne.symm n6)).trans ((vh_n (by omega)).trans hc))) (by rfl) ?_
  refine ma_iconst dX1_threeToTwo_162 ?_
  refine ma_iload dX1_threeToTwo_163 rfl ?_
  refine ma_imul dX1_threeToTwo_165 ?_
  refine ma_iload dX1_threeToTwo_166 rfl ?_
  refine ma_iadd dX1_threeToTwo_168 ?_
  refine ma_iald dX1_threeToTwo_169 (by first | exact vh_57 | exact vh_58 | exact (vh_n (by omega)).trans (by assumption) | exact ((ma_up_n (Ne.symm n6)).trans ((vh_n (by omega)).trans hc))) (by omega) (by omega) (by omega) ?_
  refine ma_iload dX1_threeToTwo_170 rfl ?_
  refine ma_iload dX1_threeToTwo_172 rfl ?_
  refine ma_iload dX1_threeToTwo_174 rfl ?_
  refine ma_iconst dX1_threeToTwo_176 ?_
  refine ma_iadd dX1_threeToTwo_177 ?_
  refine ma_cV [_, _, _, _] dX1_threeToTwo_178 wX1_putBeyond lX1_161 iX1_putBeyond sX1_putBeyond rfl (by first | exact vh_57 | exact vh_58 | exact (vh_n (by omega)).trans (by assumption) | exact ((ma_up_n (Ne.symm n6)).trans ((vh_n (by omega)).trans hc))) (Nat.le_of_ble_eq_true rfl) ?_
  refine c_X1_putBeyond hm (by constructor <;> omega) (by omega) (by decide) (by decide) ?_
  refine ma_iincK (1) dX1_threeToTwo_181 rfl (by decide) rfl (by decide) ?_
  refine ma_goto 115 dX1_threeToTwo_184 rfl ?_
  show ma_J none mX1_threeToTwo (d + 2) 0 0 115 [some (vr 54), some (vr b), some (vi k), some (vr c), some (vi (k / 16)), some (vi 1), some (vi 2), _, some (vi (t - 3)), some (vi 1)] [] _ nx Q
  refine ma_iload dX1_threeToTwo_115 rfl ?_
  refine ma_iconst dX1_threeToTwo_117 ?_
  refine ma_rcmp_ge 187 dX1_threeToTwo_118 rfl (by decide) (by decide) (fun c118 => absurd c118 (by decide)) (fun c118 => ?_)
  refine ma_iload dX1_threeToTwo_121 rfl ?_
  refine ma_iload dX1_threeToTwo_123 rfl ?_
  refine ma_rcmp_eq 181 dX1_threeToTwo_125 rfl (by decide) (by decide) (fun c125 => ?_) (fun c125 => absurd c125 (by decide))
  refine ma_iincK (2) dX1_threeToTwo_181 rfl (by decide) rfl (by decide) ?_
  refine ma_goto 115 dX1_threeToTwo_184 rfl ?_
  show ma_J none mX1_threeToTwo (d + 2) 0 0 115 [some (vr 54), some (vr b), some (vi k), some (vr c), some (vi (k / 16)), some (vi 1), some (vi 2), _, some (vi (t - 3)), some (vi 2)] [] _ nx Q
  refine ma_iload dX1_threeToTwo_115 rfl ?_
  refine ma_iconst dX1_threeToTwo_117 ?_
  refine ma_rcmp_ge 187 dX1_threeToTwo_118 rfl (by decide) (by decide) (fun c118 => absurd c118 (by decide)) (fun c118 => ?_)
  refine ma_iload dX1_threeToTwo_121 rfl ?_
  refine ma_iload dX1_threeToTwo_123 rfl ?_
  refine ma_rcmp_eq 181 dX1_threeToTwo_125 rfl (by decide) (by decide) (fun c125 => absurd c125 (by decide)) (fun c125 => ?_)
  refine ma_iload dX1_threeToTwo_128 rfl ?_
  refine ma_iload dX1_threeToTwo_130 rfl ?_
  refine ma_rcmp_eq 181 dX1_threeToTwo_132 rfl (by decide) (by decide) (fun c132 => ?_) (fun c132 => absurd c132 (by decide))
  refine ma_iincK (3) dX1_threeToTwo_181 rfl (by decide) rfl (by decide) ?_
  refine ma_goto 115 dX1_threeToTwo_184 rfl ?_
  show ma_J none mX1_threeToTwo (d + 2) 0 0 115 [some (vr 54), some (vr b), some (vi k), some (vr c), some (vi (k / 16)), some (vi 1), some (vi 2), _, some (vi (t - 3)), some (vi 3)] [] _ nx Q
  refine ma_iload dX1_threeToTwo_115 rfl ?_
  refine ma_iconst dX1_threeToTwo_117 ?_
  refine ma_rcmp_ge 187 dX1_threeToTwo_118 rfl (by decide) (by decide) (fun c118 => absurd c118 (by decide)) (fun c118 => ?_)
  refine ma_iload dX1_threeToTwo_121 rfl ?_
  refine ma_iload dX1_threeToTwo_123 rfl ?_
  refine ma_rcmp_eq 181 dX1_threeToTwo_125 rfl (by decide) (by decide) (fun c125 => absurd c125 (by decide)) (fun c125 => ?_)
  refine ma_iload dX1_threeToTwo_128 rfl ?_
  refine ma_iload dX1_threeToTwo_130 rfl ?_
  refine ma_rcmp_eq 181 dX1_threeToTwo_132 rfl (by decide) (by decide) (fun c132 => absurd c132 (by decide)) (fun c132 => ?_)
  refine ma_aload_n dX1_threeToTwo_135 rfl ?_
  refine ma_aload_n dX1_threeToTwo_136 rfl ?_
  refine ma_getf dX1_threeToTwo_137 fX1_92 (by first | exact vh_57 | exact vh_58 | exact (vh_n (by omega)).trans (by assumption) | exact ((ma_up_n (Ne.symm n6)).trans ((vh_n (by omega)).trans hc))) (by rfl) ?_
  refine ma_iconst dX1_threeToTwo_140 ?_
  refine ma_iload dX1_threeToTwo_141 rfl ?_
  refine ma_imul dX1_threeToTwo_143 ?_
  refine ma_iload dX1_threeToTwo_144 rfl ?_
  refine ma_iadd dX1_threeToTwo_146 ?_
  refine ma_iald dX1_threeToTwo_147 (by first | exact vh_57 | exact vh_58 | exact (vh_n (by omega)).trans (by assumption) | exact ((ma_up_n (Ne.symm n6)).trans ((vh_n (by omega)).trans hc))) (by omega) (by omega) (by omega) ?_
  refine ma_iload dX1_threeToTwo_148 rfl ?_
  refine ma_iload dX1_threeToTwo_150 rfl ?_
  refine ma_iload dX1_threeToTwo_152 rfl ?_
  refine ma_cV [_, _, _, _] dX1_threeToTwo_154 wX1_putBeyond lX1_161 iX1_putBeyond sX1_putBeyond rfl (by first | exact vh_57 | exact vh_58 | exact (vh_n (by omega)).trans (by assumption) | exact ((ma_up_n (Ne.symm n6)).trans ((vh_n (by omega)).trans hc))) (Nat.le_of_ble_eq_true rfl) ?_
  refine c_X1_putBeyond hm (by constructor <;> omega) (by omega) (by decide) (by decide) ?_
  refine ma_aload_n dX1_threeToTwo_157 rfl ?_
  refine ma_aload_n dX1_threeToTwo_158 rfl ?_
  refine ma_getf dX1_threeToTwo_159 fX1_92 (by first | exact vh_57 | exact vh_58 | exact (vh_n (by omega)).trans (by assumption) | exact ((ma_up_n (Ne.symm n6)).trans ((vh_n (by omega)).trans hc))) (by rfl) ?_
  refine ma_iconst dX1_threeToTwo_162 ?_
  refine ma_iload dX1_threeToTwo_163 rfl ?_
  refine ma_imul dX1_threeToTwo_165 ?_
  refine ma_iload dX1_threeToTwo_166 rfl ?_
  refine ma_iadd dX1_threeToTwo_168 ?_
  refine ma_iald dX1_threeToTwo_169 (by first | exact vh_57 | exact vh_58 | exact (vh_n (by omega)).trans (by assumption) | exact ((ma_up_n (Ne.symm n6)).trans ((vh_n (by omega)).trans hc))) (by omega) (by omega) (by omega) ?_
  refine ma_iload dX1_threeToTwo_170 rfl ?_
  refine ma_iload dX1_threeToTwo_172 rfl ?_
  refine ma_iload dX1_threeToTwo_174 rfl ?_
  refine ma_iconst dX1_threeToTwo_176 ?_
  refine ma_iadd dX1_threeToTwo_177 ?_
  refine ma_cV [_, _, _, _] dX1_threeToTwo_178 wX1_putBeyond lX1_161 iX1_putBeyond sX1_putBeyond rfl (by first | exact vh_57 | exact vh_58 | exact (vh_n (by omega)).trans (by assumption) | exact ((ma_up_n (Ne.symm n6)).trans ((vh_n (by omega)).trans hc))) (Nat.le_of_ble_eq_true rfl) ?_
  refine c_X1_putBeyond hm (by constructor <;> omega) (by omega) (by decide) (by decide) ?_
  refine ma_iincK (4) dX1_threeToTwo_181 rfl (by decide) rfl (by decide) ?_
  refine ma_goto 115 dX1_threeToTwo_184 rfl ?_
  show ma_J none mX1_threeToTwo (d + 2) 0 0 115 [some (vr 54), some (vr b), some (vi k), some (vr c), some (vi (k / 16)), some (vi 1), some (vi 2), _, some (vi (t - 3)), some (vi 4)] [] _ nx Q
  refine ma_iload dX1_threeToTwo_115 rfl ?_
  refine ma_iconst dX1_threeToTwo_117 ?_
  refine ma_rcmp_ge 187 dX1_threeToTwo_118 rfl (by decide) (by decide) (fun c118 => ?_) (fun c118 => absurd c118 (by decide))
  refine ma_aload_n dX1_threeToTwo_187 rfl ?_
  refine ma_aload_n dX1_threeToTwo_188 rfl ?_
  refine ma_aload_n dX1_threeToTwo_189 rfl ?_
  refine ma_cV [_, _] dX1_threeToTwo_190 wX1_carry lX1_165 iX1_carry sX1_carry rfl (by first | exact vh_57 | exact vh_58 | exact (vh_n (by omega)).trans (by assumption) | exact ((ma_up_n (Ne.symm n6)).trans ((vh_n (by omega)).trans hc))) (Nat.le_of_ble_eq_true rfl) ?_
  refine c_X1_carry ((vh_n (by omega)).trans hm) ((vh_n (by omega)).trans hb) ((vh_n (by omega)).trans hg) vh_57 vh_58 ((vh_n (by omega)).trans hc) ne.2.2 n2 n3 ne.1 ne.2.1 n6 hG (uf_r (uf_r (uf_r (uf_r (uf_r (uf_r (fun j j0 j1 => by rw [(hL j j0 j1).1]; exact lo_in _ (by omega) j j0 j1) (by constructor <;> omega)) (by constructor <;> omega)) (by constructor <;> omega)) (by constructor <;> omega)) (by constructor <;> omega)) (by constructor <;> omega)) (uf_r (uf_r (uf_r (uf_r (uf_r (uf_r (fun j j0 j1 => by have := (hL j j0 j1).2; omega) (by decide)) (by decide)) a0) c0) a3) c3) ((vh_n (by omega)).trans he) ?_
  refine ma_aload_n dX1_threeToTwo_193 rfl ?_
  refine ma_iconst dX1_threeToTwo_194 ?_
  refine ma_iload dX1_threeToTwo_195 rfl ?_
  refine ma_imul dX1_threeToTwo_197 ?_
  refine ma_iload dX1_threeToTwo_198 rfl ?_
  refine ma_iadd dX1_threeToTwo_200 ?_
  refine ma_iload dX1_threeToTwo_201 rfl ?_
  refine ma_iconst dX1_threeToTwo_203 ?_
  refine ma_iadd dX1_threeToTwo_204 ?_
  refine ma_getsN (j := 3) dX1_threeToTwo_205 (by decide) gX1_173 ?_
  refine ma_iconst dX1_threeToTwo_208 ?_
  refine ma_iload dX1_threeToTwo_209 rfl ?_
  refine ma_imulK (4) dX1_threeToTwo_211 (by decide) ?_
  refine ma_iload dX1_threeToTwo_212 rfl ?_
  refine ma_iaddK (6) dX1_threeToTwo_214 (by decide) ?_
  refine ma_tald (j := 3) (n := 16) dX1_threeToTwo_215 (by decide) tl_3 (by omega) (by omega) (by decide) ?_
  refine ma_cV [_, _, _] dX1_threeToTwo_216 wX8_join lX1_176 iX8_join sX8_join rfl (by first | exact vh_57 | exact vh_58 | exact (vh_n (by omega)).trans (by assumption) | exact ((ma_up_n (Ne.symm n6)).trans ((vh_n (by omega)).trans hc))) (Nat.le_of_ble_eq_true rfl) ?_
  rw [show (ma_tf 3 6 : Int) = sx 2 1 by decide +kernel]
  refine c_join_fan (x := 2) (y := 1) ((ma_up_n (Ne.symm n6)).trans ((vh_n (by omega)).trans hc)) (ma_up_s _ _ _) (Ne.symm n6) (by constructor <;> omega) (by constructor <;> omega) (by decide) (by decide) ?_
  rw [ma_up_up]
  exact ma_vret dX1_threeToTwo_219 rfl (K H T hL)
set_option maxHeartbeats 2000000 in
theorem c_X1_three13 {h : ma_H} {b g c e nx d : Nat} {t u k : Int} {G C H T : Int → Int} {Q : Option ma_V → ma_H → Nat → Prop} (hm : h 54 = co 1 [vr 44, vr 39, vr 55, vr 57, vr 58]) (hb : h b = co 8 [vi t, vr g]) (hg : h g = ci 32 G) (hc : h c = co 8 [vi u, vr e]) (he : h e = ci 32 C) (nb : b ≠ 57 ∧ b ≠ 58) (ng : g ≠ 57 ∧ g ≠ 58) (nc : c ≠ 57 ∧ c ≠ 58) (ne : e ≠ 57 ∧ e ≠ 58 ∧ e ≠ 54) (n2 : e ≠ b) (n3 : e ≠ g) (n6 : e ≠ c) (hG : VG t G) (hk : 0 ≤ k ∧ k < 16 * t) (hu : k / 4 % 4 = 1) (hv : k % 4 = 3) (hgl : ∀ x, 0 ≤ x → x < 4 → x ≠ k / 4 % 4 → x ≠ k % 4 → 0 ≤ G (4 * (k / 16) + x) ∧ G (4 * (k / 16) + x) < 256 ∧ 0 ≤ G (4 * (k / 16) + x) % 32 ∧ G (4 * (k / 16) + x) % 32 < 24 ∧ G (4 * (k / 16) + x) / 32 < t) (h3 : k / 16 ≠ G (4 * (k / 16) + 0) / 32 ∧ k / 16 ≠ G (4 * (k / 16) + 2) / 32 ∧ G (4 * (k / 16) + 0) / 32 ≠ G (4 * (k / 16) + 2) / 32) (K : ∀ H T, (∀ j, 0 ≤ j → j < 4 * t → H j = lo (fun i => (i = k / 16 ∨ i = G (4 * (k / 16) + 0) / 32) ∨ i = G (4 * (k / 16) + 2) / 32) j ∧ T j = 0) → Q none (ma_up (vh h (uf (uf (uf (uf (uf (uf H (4 * (k / 16) + 3) (t - 3)) (4 * (k / 16) + 1) (t - 3 + 1)) (4 * (G (4 * (k / 16) + 0) / 32) + im (G (4 * (k / 16) + 0) % 32) 3) (t - 3)) (4 * (G (4 * (k / 16) + 0) / 32) + im (G (4 * (k / 16) + 0) % 32) 1) (t - 3 + 1)) (4 * (G (4 * (k / 16) + 2) / 32) + im (G (4 * (k / 16) + 2) % 32) 3) (t - 3)) (4 * (G (4 * (k / 16) + 2) / 32) + im (G (4 * (k / 16) + 2) % 32) 1) (t - 3 + 1)) (uf (uf (uf (uf (uf (uf T (4 * (k / 16) + 3) (0)) (4 * (k / 16) + 1) (0)) (4 * (G (4 * (k / 16) + 0) / 32) + im (G (4 * (k / 16) + 0) % 32) 3) (af (sx 0 3) (iv (G (4 * (k / 16) + 0) % 32)))) (4 * (G (4 * (k / 16) + 0) / 32) + im (G (4 * (k / 16) + 0) % 32) 1) (af (sx 0 1) (iv (G (4 * (k / 16) + 0) % 32)))) (4 * (G (4 * (k / 16) + 2) / 32) + im (G (4 * (k / 16) + 2) % 32) 3) (af (sx 2 3) (iv (G (4 * (k / 16) + 2) % 32)))) (4 * (G (4 * (k / 16) + 2) / 32) + im (G (4 * (k / 16) + 2) % 32) 1) (af (sx 2 1) (iv (G (4 * (k / 16) + 2) % 32))))) e (ci 32 (fj (cy G (uf (uf (uf (uf (uf (uf H (4 * (k / 16) + 3) (t - 3)) (4 * (k / 16) + 1) (t - 3 + 1)) (4 * (G (4 * (k / 16) + 0) / 32) + im (G (4 * (k / 16) + 0) % 32) 3) (t - 3)) (4 * (G (4 * (k / 16) + 0) / 32) + im (G (4 * (k / 16) + 0) % 32) 1) (t - 3 + 1)) (4 * (G (4 * (k / 16) + 2) / 32) + im (G (4 * (k / 16) + 2) % 32) 3) (t - 3)) (4 * (G (4 * (k / 16) + 2) / 32) + im (G (4 * (k / 16) + 2) % 32) 1) (t - 3 + 1)) (uf (uf (uf (uf (uf (uf T (4 * (k / 16) + 3) (0)) (4 * (k / 16) + 1) (0)) (4 * (G (4 * (k / 16) + 0) / 32) + im (G (4 * (k / 16) + 0) % 32) 3) (af (sx 0 3) (iv (G (4 * (k / 16) + 0) % 32)))) (4 * (G (4 * (k / 16) + 0) / 32) + im (G (4 * (k / 16) + 0) % 32) 1) (af (sx 0 1) (iv (G (4 * (k / 16) + 0) % 32)))) (4 * (G (4 * (k / 16) + 2) / 32) + im (G (4 * (k / 16) + 2) % 32) 3) (af (sx 2 3) (iv (G (4 * (k / 16) + 2) % 32)))) (4 * (G (4 * (k / 16) + 2) / 32) + im (G (4 * (k / 16) + 2) % 32) 1) (af (sx 2 1) (iv (G (4 * (k / 16) + 2) % 32)))) C (4 * t).toNat) (t - 3) (t - 3 + 1) 3 1))) nx) : ma_Ct mX1_threeToTwo (d + 2) 0 0 [vr 54, vr b, vi k, vr c] (vh h H T) nx Q := by
  have ht := hG.1
  have g0 := hgl 0 (by decide) (by decide) (by omega) (by omega)
  have i0 := iv_in g0.2.2.1 g0.2.2.2.1
  have b0 := im_in g0.2.2.1 g0.2.2.2.1 (show (0 : Int) ≤ 3 by decide) (by decide)
  have d0 := im_in g0.2.2.1 g0.2.2.2.1 (show (0 : Int) ≤ 1 by decide) (by decide)
  have a0 := af_in (sx_ok (i := 0) (j := 3) (by decide) (by decide) (by decide) (by decide)).1 (sx_ok (i := 0) (j := 3) (by decide) (by decide) (by decide) (by decide)).2.1 i0.1 i0.2
  have c0 := af_in (sx_ok (i := 0) (j := 1) (by decide) (by decide) (by decide) (by decide)).1 (sx_ok (i := 0) (j := 1) (by decide) (by decide) (by decide) (by decide)).2.1 i0.1 i0.2
  have g2 := hgl 2 (by decide) (by decide) (by omega) (by omega)
  have i2 := iv_in g2.2.2.1 g2.2.2.2.1
  have b2 := im_in g2.2.2.1 g2.2.2.2.1 (show (0 : Int) ≤ 3 by decide) (by decide)
  have d2 := im_in g2.2.2.1 g2.2.2.2.1 (show (0 : Int) ≤ 1 by decide) (by decide)
  have a2 := af_in (sx_ok (i := 2) (j := 3) (by decide) (by decide) (by decide) (by decide)).1 (sx_ok (i := 2) (j := 3) (by decide) (by decide) (by decide) (by decide)).2.1 i2.1 i2.2
  have c2 := af_in (sx_ok (i := 2) (j := 1) (by decide) (by decide) (by decide) (by decide)).1 (sx_ok (i := 2) (j := 1) (by decide) (by decide) (by decide) (by decide)).2.1 i2.1 i2.2
  refine ma_Ct.of (by decide +kernel) (Nat.le_of_ble_eq_true rfl) ?_
  refine ma_iload_n dX1_threeToTwo_0 rfl ?_
  refine ma_iconst dX1_threeToTwo_1 ?_
  refine ma_kshr 16 dX1_threeToTwo_2 (by decide) (by constructor <;> omega) ?_
  refine ma_istoreN dX1_threeToTwo_3 (by decide) rfl ?_
  refine ma_iload_n dX1_threeToTwo_5 rfl ?_
  refine ma_iconst dX1_threeToTwo_6 ?_
  refine ma_kshr 4 dX1_threeToTwo_7 (by decide) (by constructor <;> omega) ?_
  refine ma_iconst dX1_threeToTwo_8 ?_
  refine ma_kand 2 4 dX1_threeToTwo_9 (by decide) (by decide +kernel) (by decide) ?_
  rw [hu]
  refine ma_istoreN dX1_threeToTwo_10 (by decide) rfl ?_
  refine ma_iload_n dX1_threeToTwo_12 rfl ?_
  refine ma_iconst dX1_threeToTwo_13 ?_
  refine ma_kand 2 4 dX1_threeToTwo_14 (by decide) (by decide +kernel) (by decide) ?_
  rw [hv]
  refine ma_istoreN dX1_threeToTwo_15 (by decide) rfl ?_
  refine ma_iconst dX1_threeToTwo_17 ?_
  refine ma_iload dX1_threeToTwo_18 rfl ?_
  refine ma_ishl dX1_threeToTwo_20 ?_
  refine ma_istoreN dX1_threeToTwo_21 (by decide) rfl ?_
  refine ma_iconst dX1_threeToTwo_23 ?_
  refine ma_istoreN dX1_threeToTwo_24 (by decide) rfl ?_
  show ma_J none mX1_threeToTwo (d + 2) 0 0 26 [some (vr 54), some (vr b), some (vi k), some (vr c), some (vi (k / 16)), some (vi 1), some (vi 3), _, some (vi 0), _] [] _ nx Q
  refine ma_iload dX1_threeToTwo_26 rfl ?_
  refine ma_iconst dX1_threeToTwo_28 ?_
  refine ma_rcmp_ge 73 dX1_threeToTwo_29 rfl (by decide) (by decide) (fun c29 => absurd c29 (by decide)) (fun c29 => ?_)
  refine ma_iload dX1_threeToTwo_32 rfl ?_
  refine ma_iload dX1_threeToTwo_34 rfl ?_
  refine ma_rcmp_eq 67 dX1_threeToTwo_36 rfl (by decide) (by decide) (fun c36 => absurd c36 (by decide)) (fun c36 => ?_)
  refine ma_iload dX1_threeToTwo_39 rfl ?_
  refine ma_iload dX1_threeToTwo_41 rfl ?_
  refine ma_rcmp_eq 67 dX1_threeToTwo_43 rfl (by decide) (by decide) (fun c43 => absurd c43 (by decide)) (fun c43 => ?_)
  refine ma_iload dX1_threeToTwo_46 rfl ?_
  refine ma_iconst dX1_threeToTwo_48 ?_
  refine ma_aload_n dX1_threeToTwo_49 rfl ?_
  refine ma_getf dX1_threeToTwo_50 fX1_92 (by first | exact vh_57 | exact vh_58 | exact (vh_n (by omega)).trans (by assumption) | exact ((ma_up_n (Ne.symm n6)).trans ((vh_n (by omega)).trans hc))) (by rfl) ?_
  refine ma_iconst dX1_threeToTwo_53 ?_
  refine ma_iload dX1_threeToTwo_54 rfl ?_
  refine ma_imul dX1_threeToTwo_56 ?_
  refine ma_iload dX1_threeToTwo_57 rfl ?_
  refine ma_iadd dX1_threeToTwo_59 ?_
  refine ma_iald dX1_threeToTwo_60 (by first | exact vh_57 | exact vh_58 | exact (vh_n (by omega)).trans (by assumption) | exact ((ma_up_n (Ne.symm n6)).trans ((vh_n (by omega)).trans hc))) (by omega) (by omega) (by omega) ?_
  refine ma_iconst dX1_threeToTwo_61 ?_
  refine ma_kshr 32 dX1_threeToTwo_62 (by decide) (by constructor <;> omega) ?_
  refine ma_ishl dX1_threeToTwo_63 ?_
  refine ma_ior dX1_threeToTwo_64 ?_
  refine ma_istoreN dX1_threeToTwo_65 (by decide) rfl ?_
  refine ma_iincK (1) dX1_threeToTwo_67 rfl (by decide) rfl (by decide) ?_
  refine ma_goto 26 dX1_threeToTwo_70 rfl ?_
  show ma_J none mX1_threeToTwo (d + 2) 0 0 26 [some (vr 54), some (vr b), some (vi k), some (vr c), some (vi (k / 16)), some (vi 1), some (vi 3), _, some (vi 1), _] [] _ nx Q
  refine ma_iload dX1_threeToTwo_26 rfl ?_
  refine ma_iconst dX1_threeToTwo_28 ?_
  refine ma_rcmp_ge 73 dX1_threeToTwo_29 rfl (by decide) (by decide) (fun c29 => absurd c29 (by decide)) (fun c29 => ?_)
  refine ma_iload dX1_threeToTwo_32 rfl ?_
  refine ma_iload dX1_threeToTwo_34 rfl ?_
  refine ma_rcmp_eq 67 dX1_threeToTwo_36 rfl (by decide) (by decide) (fun c36 => ?_) (fun c36 => absurd c36 (by decide))
  refine ma_iincK (2) dX1_threeToTwo_67 rfl (by decide) rfl (by decide) ?_
  refine ma_goto 26 dX1_threeToTwo_70 rfl ?_
  show ma_J none mX1_threeToTwo (d + 2) 0 0 26 [some (vr 54), some (vr b), some (vi k), some (vr c), some (vi (k / 16)), some (vi 1), some (vi 3), _, some (vi 2), _] [] _ nx Q
  refine ma_iload dX1_threeToTwo_26 rfl ?_
  refine ma_iconst dX1_threeToTwo_28 ?_
  refine ma_rcmp_ge 73 dX1_threeToTwo_29 rfl (by decide) (by decide) (fun c29 => absurd c29 (by decide)) (fun c29 => ?_)
  refine ma_iload dX1_threeToTwo_32 rfl ?_
  refine ma_iload dX1_threeToTwo_34 rfl ?_
  refine ma_rcmp_eq 67 dX1_threeToTwo_36 rfl (by decide) (by decide) (fun c36 => absurd c36 (by decide)) (fun c36 => ?_)
  refine ma_iload dX1_threeToTwo_39 rfl ?_
  refine ma_iload dX1_threeToTwo_41 rfl ?_
  refine ma_rcmp_eq 67 dX1_threeToTwo_43 rfl (by decide) (by decide) (fun c43 => absurd c43 (by decide)) (fun c43 => ?_)
  refine ma_iload dX1_threeToTwo_46 rfl ?_
  refine ma_iconst dX1_threeToTwo_48 ?_
  refine ma_aload_n dX1_threeToTwo_49 rfl ?_
  refine ma_getf dX1_threeToTwo_50 fX1_92 (by first | exact vh_57 | exact vh_58 | exact (vh_n (by omega)).trans (by assumption) | exact ((ma_up_n (Ne.symm n6)).trans ((vh_n (by omega)).trans hc))) (by rfl) ?_
  refine ma_iconst dX1_threeToTwo_53 ?_
  refine ma_iload dX1_threeToTwo_54 rfl ?_
  refine ma_imul dX1_threeToTwo_56 ?_
  refine ma_iload dX1_threeToTwo_57 rfl ?_
  refine ma_iadd dX1_threeToTwo_59 ?_
  refine ma_iald dX1_threeToTwo_60 (by first | exact vh_57 | exact vh_58 | exact (vh_n (by omega)).trans (by assumption) | exact ((ma_up_n (Ne.symm n6)).trans ((vh_n (by omega)).trans hc))) (by omega) (by omega) (by omega) ?_
  refine ma_iconst dX1_threeToTwo_61 ?_
  refine ma_kshr 32 dX1_threeToTwo_62 (by decide) (by constructor <;> omega) ?_
  refine ma_ishl dX1_threeToTwo_63 ?_
  refine ma_ior dX1_threeToTwo_64 ?_
  refine ma_istoreN dX1_threeToTwo_65 (by decide) rfl ?_
  refine ma_iincK (3) dX1_threeToTwo_67 rfl (by decide) rfl (by decide) ?_
  refine ma_goto 26 dX1_threeToTwo_70 rfl ?_
  show ma_J none mX1_threeToTwo (d + 2) 0 0 26 [some (vr 54), some (vr b), some (vi k), some (vr c), some (vi (k / 16)), some (vi 1), some (vi 3), _, some (vi 3), _] [] _ nx Q
  refine ma_iload dX1_threeToTwo_26 rfl ?_
  refine ma_iconst dX1_threeToTwo_28 ?_
  refine ma_rcmp_ge 73 dX1_threeToTwo_29 rfl (by decide) (by decide) (fun c29 => absurd c29 (by decide)) (fun c29 => ?_)
  refine ma_iload dX1_threeToTwo_32 rfl ?_
  refine ma_iload dX1_threeToTwo_34 rfl ?_
  refine ma_rcmp_eq 67 dX1_threeToTwo_36 rfl (by decide) (by decide) (fun c36 => absurd c36 (by decide)) (fun c36 => ?_)
  refine ma_iload dX1_threeToTwo_39 rfl ?_
  refine ma_iload dX1_threeToTwo_41 rfl ?_
  refine ma_rcmp_eq 67 dX1_threeToTwo_43 rfl (by decide) (by decide) (fun c43 => ?_) (fun c43 => absurd c43 (by decide))
  refine ma_iincK (4) dX1_threeToTwo_67 rfl (by decide) rfl (by decide) ?_
  refine ma_goto 26 dX1_threeToTwo_70 rfl ?_
  show ma_J none mX1_threeToTwo (d + 2) 0 0 26 [some (vr 54), some (vr b), some (vi k), some (vr c), some (vi (k / 16)), some (vi 1), some (vi 3), _, some (vi 4), _] [] _ nx Q
  refine ma_iload dX1_threeToTwo_26 rfl ?_
  refine ma_iconst dX1_threeToTwo_28 ?_
  refine ma_rcmp_ge 73 dX1_threeToTwo_29 rfl (by decide) (by decide) (fun c29 => ?_) (fun c29 => absurd c29 (by decide))
  refine ma_aload_n dX1_threeToTwo_73 rfl ?_
  refine ma_aload_n dX1_threeToTwo_74 rfl ?_
  refine ma_iload dX1_threeToTwo_75 rfl ?_
  refine ma_cV [_, _] dX1_threeToTwo_77 wX1_layOut lX1_154 iX1_layOut sX1_layOut rfl (by first | exact vh_57 | exact vh_58 | exact (vh_n (by omega)).trans (by assumption) | exact ((ma_up_n (Ne.symm n6)).trans ((vh_n (by omega)).trans hc))) (Nat.le_of_ble_eq_true rfl) ?_
  refine c_X1_layOut (S := fun i => (i = k / 16 ∨ i = G (4 * (k / 16) + 0) / 32) ∨ i = G (4 * (k / 16) + 2) / 32) hm hb nb (by omega) (mk_or (mk_or (mk_1 (by omega) (by omega)) (by omega) (by omega)) (by omega) (by omega)) (fun H T hL => ?_)
  rw [sty_3 (by omega) (by omega) (by omega) (by omega) (by omega) (by omega) (by omega) (by omega) (by omega)]
  refine ma_istoreN dX1_threeToTwo_80 (by decide) rfl ?_
  refine ma_aload_n dX1_threeToTwo_82 rfl ?_
  refine ma_iconst dX1_threeToTwo_83 ?_
  refine ma_iload dX1_threeToTwo_84 rfl ?_
  refine ma_imul dX1_threeToTwo_86 ?_
  refine ma_iload dX1_threeToTwo_87 rfl ?_
  refine ma_iadd dX1_threeToTwo_89 ?_
  refine ma_iload dX1_threeToTwo_90 rfl ?_
  refine ma_iconst dX1_threeToTwo_92 ?_
  refine ma_cV [_, _, _] dX1_threeToTwo_93 wX1_put lX1_157 iX1_put sX1_put rfl (by first | exact vh_57 | exact vh_58 | exact (vh_n (by omega)).trans (by assumption) | exact ((ma_up_n (Ne.symm n6)).trans ((vh_n (by omega)).trans hc))) (Nat.le_of_ble_eq_true rfl) ?_
  refine c_X1_put hm (by constructor <;> omega) ?_
  refine ma_aload_n dX1_threeToTwo_96 rfl ?_
  refine ma_iconst dX1_threeToTwo_97 ?_
  refine ma_iload dX1_threeToTwo_98 rfl ?_
  refine ma_imul dX1_threeToTwo_100 ?_
  refine ma_iload dX1_threeToTwo_101 rfl ?_
  refine ma_iadd dX1_threeToTwo_103 ?_
  refine ma_iload dX1_threeToTwo_104 rfl ?_
  refine ma_iconst dX1_threeToTwo_106 ?_
  refine ma_iadd dX1_threeToTwo_107 ?_
  refine ma_iconst dX1_threeToTwo_108 ?_
  refine ma_cV [_, _, _] dX1_threeToTwo_109 wX1_put lX1_157 iX1_put sX1_put rfl (by first | exact vh_57 | exact vh_58 | exact (vh_n (by omega)).trans (by assumption) | exact ((ma_up_n (Ne.symm n6)).trans ((vh_n (by omega)).trans hc))) (Nat.le_of_ble_eq_true rfl) ?_
  refine c_X1_put hm (by constructor <;> omega) ?_
  refine ma_iconst dX1_threeToTwo_112 ?_
  refine ma_istoreN dX1_threeToTwo_113 (by decide) rfl ?_
  show ma_J none mX1_threeToTwo (d + 2) 0 0 115 [some (vr 54), some (vr b), some (vi k), some (vr c), some (vi (k / 16)), some (vi 1), some (vi 3), _, some (vi (t - 3)), some (vi 0)] [] _ nx Q
  refine ma_iload dX1_threeToTwo_115 rfl ?_
  refine ma_iconst dX1_threeToTwo_117 ?_
  refine ma_rcmp_ge 187 dX1_threeToTwo_118 rfl (by decide) (by decide) (fun c118 => absurd c118 (by decide)) (fun c118 => ?_)
  refine ma_iload dX1_threeToTwo_121 rfl ?_
  refine ma_iload dX1_threeToTwo_123 rfl ?_
  refine ma_rcmp_eq 181 dX1_threeToTwo_125 rfl (by decide) (by decide) (fun c125 => absurd c125 (by decide)) (fun c125 => ?_)
  refine ma_iload dX1_threeToTwo_128 rfl ?_
  refine ma_iload dX1_threeToTwo_130 rfl ?_
  refine ma_rcmp_eq 181 dX1_threeToTwo_132 rfl (by decide) (by decide) (fun c132 => absurd c132 (by decide)) (fun c132 => ?_)
  refine ma_aload_n dX1_threeToTwo_135 rfl ?_
  refine ma_aload_n dX1_threeToTwo_136 rfl ?_
  refine ma_getf dX1_threeToTwo_137 fX1_92 (by first | exact vh_57 | exact vh_58 | exact (vh_n (by omega)).trans (by assumption) | exact ((ma_up_n (Ne.symm n6)).trans ((vh_n (by omega)).trans hc))) (by rfl) ?_
  refine ma_iconst dX1_threeToTwo_140 ?_
  refine ma_iload dX1_threeToTwo_141 rfl ?_
  refine ma_imul dX1_threeToTwo_143 ?_
  refine ma_iload dX1_threeToTwo_144 rfl ?_
  refine ma_iadd dX1_threeToTwo_146 ?_
  refine ma_iald dX1_threeToTwo_147 (by first | exact vh_57 | exact vh_58 | exact (vh_n (by omega)).trans (by assumption) | exact ((ma_up_n (Ne.symm n6)).trans ((vh_n (by omega)).trans hc))) (by omega) (by omega) (by omega) ?_
  refine ma_iload dX1_threeToTwo_148 rfl ?_
  refine ma_iload dX1_threeToTwo_150 rfl ?_
  refine ma_iload dX1_threeToTwo_152 rfl ?_
  refine ma_cV [_, _, _, _] dX1_threeToTwo_154 wX1_putBeyond lX1_161 iX1_putBeyond sX1_putBeyond rfl (by first | exact vh_57 | exact vh_58 | exact (vh_n (by omega)).trans (by assumption) | exact ((ma_up_n (Ne.symm n6)).trans ((vh_n (by omega)).trans hc))) (Nat.le_of_ble_eq_true rfl) ?_
  refine c_X1_putBeyond hm (by constructor <;> omega) (by omega) (by decide) (by decide) ?_
  refine ma_aload_n dX1_threeToTwo_157 rfl ?_
  refine ma_aload_n dX1_threeToTwo_158 rfl ?_
  refine ma_getf dX1_threeToTwo_159 fX1_92 (by first | exact vh_57 | exact vh_58 | exact (vh_n (by omega)).trans (by assumption) | exact ((ma_up_n (Ne.symm n6)).trans ((vh_n (by omega)).trans hc))) (by rfl) ?_
  refine ma_iconst dX1_threeToTwo_162 ?_
  refine ma_iload dX1_threeToTwo_163 rfl ?_
  refine ma_imul dX1_threeToTwo_165 ?_
  refine ma_iload dX1_threeToTwo_166 rfl ?_
  refine ma_iadd dX1_threeToTwo_168 ?_
  refine ma_iald dX1_threeToTwo_169 (by first | exact vh_57 | exact vh_58 | exact (vh_n (by omega)).trans (by assumption) | exact ((ma_up_n (Ne.symm n6)).trans ((vh_n (by omega)).trans hc))) (by omega) (by omega) (by omega) ?_
  refine ma_iload dX1_threeToTwo_170 rfl ?_
  refine ma_iload dX1_threeToTwo_172 rfl ?_
  refine ma_iload dX1_threeToTwo_174 rfl ?_
  refine ma_iconst dX1_threeToTwo_176 ?_
  refine ma_iadd dX1_threeToTwo_177 ?_
  refine ma_cV [_, _, _, _] dX1_threeToTwo_178 wX1_putBeyond lX1_161 iX1_putBeyond sX1_putBeyond rfl (by first | exact vh_57 | exact vh_58 | exact (vh_n (by omega)).trans (by assumption) | exact ((ma_up_n (Ne.symm n6)).trans ((vh_n (by omega)).trans hc))) (Nat.le_of_ble_eq_true rfl) ?_
  refine c_X1_putBeyond hm (by constructor <;> omega) (by omega) (by decide) (by decide) ?_
  refine ma_iincK (1) dX1_threeToTwo_181 rfl (by decide) rfl (by decide) ?_
  refine ma_goto 115 dX1_threeToTwo_184 rfl ?_
  show ma_J none mX1_threeToTwo (d + 2) 0 0 115 [some (vr 54), some (vr b), some (vi k), some (vr c), some (vi (k / 16)), some (vi 1), some (vi 3), _, some (vi (t - 3)), some (vi 1)] [] _ nx Q
  refine ma_iload dX1_threeToTwo_115 rfl ?_
  refine ma_iconst dX1_threeToTwo_117 ?_
  refine ma_rcmp_ge 187 dX1_threeToTwo_118 rfl (by decide) (by decide) (fun c118 => absurd c118 (by decide)) (fun c118 => ?_)
  refine ma_iload dX1_threeToTwo_121 rfl ?_
  refine ma_iload dX1_threeToTwo_123 rfl ?_
  refine ma_rcmp_eq 181 dX1_threeToTwo_125 rfl (by decide) (by decide) (fun c125 => ?_) (fun c125 => absurd c125 (by decide))
  refine ma_iincK (2) dX1_threeToTwo_181 rfl (by decide) rfl (by decide) ?_
  refine ma_goto 115 dX1_threeToTwo_184 rfl ?_
  show ma_J none mX1_threeToTwo (d + 2) 0 0 115 [some (vr 54), some (vr b), some (vi k), some (vr c), some (vi (k / 16)), some (vi 1), some (vi 3), _, some (vi (t - 3)), some (vi 2)] [] _ nx Q
  refine ma_iload dX1_threeToTwo_115 rfl ?_
  refine ma_iconst dX1_threeToTwo_117 ?_
  refine ma_rcmp_ge 187 dX1_threeToTwo_118 rfl (by decide) (by decide) (fun c118 => absurd c118 (by decide)) (fun c118 => ?_)
  refine ma_iload dX1_threeToTwo_121 rfl ?_
  refine ma_iload dX1_threeToTwo_123 rfl ?_
  refine ma_rcmp_eq 181 dX1_threeToTwo_125 rfl (by decide) (by decide) (fun c125 => absurd c125 (by decide)) (fun c125 => ?_)
  refine ma_iload dX1_threeToTwo_128 rfl ?_
  refine ma_iload dX1_threeToTwo_130 rfl ?_
  refine ma_rcmp_eq 181 dX1_threeToTwo_132 rfl (by decide) (by decide) (fun c132 => absurd c132 (by decide)) (fun c132 => ?_)
  refine ma_aload_n dX1_threeToTwo_135 rfl ?_
  refine ma_aload_n dX1_threeToTwo_136 rfl ?_
  refine ma_getf dX1_threeToTwo_137 fX1_92 (by first | exact vh_57 | exact vh_58 | exact (vh_n (by omega)).trans (by assumption) | exact ((ma_up_n (Ne.symm n6)).trans ((vh_n (by omega)).trans hc))) (by rfl) ?_
  refine ma_iconst dX1_threeToTwo_140 ?_
  refine ma_iload dX1_threeToTwo_141 rfl ?_
  refine ma_imul dX1_threeToTwo_143 ?_
  refine ma_iload dX1_threeToTwo_144 rfl ?_
  refine ma_iadd dX1_threeToTwo_146 ?_
  refine ma_iald dX1_threeToTwo_147 (by first | exact vh_57 | exact vh_58 | exact (vh_n (by omega)).trans (by assumption) | exact ((ma_up_n (Ne.symm n6)).trans ((vh_n (by omega)).trans hc))) (by omega) (by omega) (by omega) ?_
  refine ma_iload dX1_threeToTwo_148 rfl ?_
  refine ma_iload dX1_threeToTwo_150 rfl ?_
  refine ma_iload dX1_threeToTwo_152 rfl ?_
  refine ma_cV [_, _, _, _] dX1_threeToTwo_154 wX1_putBeyond lX1_161 iX1_putBeyond sX1_putBeyond rfl (by first | exact vh_57 | exact vh_58 | exact (vh_n (by omega)).trans (by assumption) | exact ((ma_up_n (Ne.symm n6)).trans ((vh_n (by omega)).trans hc))) (Nat.le_of_ble_eq_true rfl) ?_
  refine c_X1_putBeyond hm (by constructor <;> omega) (by omega) (by decide) (by decide) ?_
  refine ma_aload_n dX1_threeToTwo_157 rfl ?_
  refine ma_aload_n dX1_threeToTwo_158 rfl ?_
  refine ma_getf dX1_threeToTwo_159 fX1_92 (by first | exact vh_57 | exact vh_58 | exact (vh_n (by omega)).trans (by assumption) | exact ((ma_up_n (Ne.symm n6)).trans ((vh_n (by omega)).trans hc))) (by rfl) ?_
  refine ma_iconst dX1_threeToTwo_162 ?_
  refine ma_iload dX1_threeToTwo_163 rfl ?_
  refine ma_imul dX1_threeToTwo_165 ?_
  refine ma_iload dX1_threeToTwo_166 rfl ?_
  refine ma_iadd dX1_threeToTwo_168 ?_
  refine ma_iald dX1_threeToTwo_169 (by first | exact vh_57 | exact vh_58 | exact (vh_n (by omega)).trans (by assumption) | exact ((ma_up_n (Ne.symm n6)).trans ((vh_n (by omega)).trans hc))) (by omega) (by omega) (by omega) ?_
  refine ma_iload dX1_threeToTwo_170 rfl ?_
  refine ma_iload dX1_threeToTwo_172 rfl ?_
  refine ma_iload dX1_threeToTwo_174 rfl ?_
  refine ma_iconst dX1_threeToTwo_176 ?_
  refine ma_iadd dX1_threeToTwo_177 ?_
  refine ma_cV [_, _, _, _] dX1_threeToTwo_178 wX1_putBeyond lX1_161 iX1_putBeyond sX1_putBeyond rfl (by first | exact vh_57 | exact vh_58 | exact (vh_n (by omega)).trans (by assumption) | exact ((ma_up_n (Ne.symm n6)).trans ((vh_n (by omega)).trans hc))) (Nat.le_of_ble_eq_true rfl) ?_
  refine c_X1_putBeyond hm (by constructor <;> omega) (by omega) (by decide) (by decide) ?_
  refine ma_iincK (3) dX1_threeToTwo_181 rfl (by decide) rfl (by decide) ?_
  refine ma_goto 115 dX1_threeToTwo_184 rfl ?_
  show ma_J none mX1_threeToTwo (d + 2) 0 0 115 [some (vr 54), some (vr b), some (vi k), some (vr c), some (vi (k / 16)), some (vi 1), some (vi 3), _, some (vi (t - 3)), some (vi 3)] [] _ nx Q
  refine ma_iload dX1_threeToTwo_115 rfl ?_
  refine ma_iconst dX1_threeToTwo_117 ?_
  refine ma_rcmp_ge 187 dX1_threeToTwo_118 rfl (by decide) (by decide) (fun c118 => absurd c118 (by decide)) (fun c118 => ?_)
  refine ma_iload dX1_threeToTwo_121 rfl ?_
  refine ma_iload dX1_threeToTwo_123 rfl ?_
  refine ma_rcmp_eq 181 dX1_threeToTwo_125 rfl (by decide) (by decide) (fun c125 => absurd c125 (by decide)) (fun c125 => ?_)
  refine ma_iload dX1_threeToTwo_128 rfl ?_
  refine ma_iload dX1_threeToTwo_130 rfl ?_
  refine ma_rcmp_eq 181 dX1_threeToTwo_132 rfl (by decide) (by decide) (fun c132 => ?_) (fun c132 => absurd c132 (by decide))
  refine ma_iincK (4) dX1_threeToTwo_181 rfl (by decide) rfl (by decide) ?_
  refine ma_goto 115 dX1_threeToTwo_184 rfl ?_
  show ma_J none mX1_threeToTwo (d + 2) 0 0 115 [some (vr 54), some (vr b), some (vi k), some (vr c), some (vi (k / 16)), some (vi 1), some (vi 3), _, some (vi (t - 3)), some (vi 4)] [] _ nx Q
  refine ma_iload dX1_threeToTwo_115 rfl ?_
  refine ma_iconst dX1_threeToTwo_117 ?_
  refine ma_rcmp_ge 187 dX1_threeToTwo_118 rfl (by decide) (by decide) (fun c118 => ?_) (fun c118 => absurd c118 (by decide))
  refine ma_aload_n dX1_threeToTwo_187 rfl ?_
  refine ma_aload_n dX1_threeToTwo_188 rfl ?_
  refine ma_aload_n dX1_threeToTwo_189 rfl ?_
  refine ma_cV [_, _] dX1_threeToTwo_190 wX1_carry lX1_165 iX1_carry sX1_carry rfl (by first | exact vh_57 | exact vh_58 | exact (vh_n (by omega)).trans (by assumption) | exact ((ma_up_n (Ne.symm n6)).trans ((vh_n (by omega)).trans hc))) (Nat.le_of_ble_eq_true rfl) ?_
  refine c_X1_carry ((vh_n (by omega)).trans hm) ((vh_n (by omega)).trans hb) ((vh_n (by omega)).trans hg) vh_57 vh_58 ((vh_n (by omega)).trans hc) ne.2.2 n2 n3 ne.1 ne.2.1 n6 hG (uf_r (uf_r (uf_r (uf_r (uf_r (uf_r (fun j j0 j1 => by rw [(hL j j0 j1).1]; exact lo_in _ (by omega) j j0 j1) (by constructor <;> omega)) (by constructor <;> omega)) (by constructor <;> omega)) (by constructor <;> omega)) (by constructor <;> omega)) (by constructor <;> omega)) (uf_r (uf_r (uf_r (uf_r (uf_r (uf_r (fun j j0 j1 => by have := (hL j j0 j1).2; omega) (by decide)) (by decide)) a0) c0) a2) c2) ((vh_n (by omega)).trans he) ?_
  refine ma_aload_n dX1_threeToTwo_193 rfl ?_
  refine ma_iconst dX1_threeToTwo_194 ?_
  refine ma_iload dX1_threeToTwo_195 rfl ?_
  refine ma_imul dX1_threeToTwo_197 ?_
  refine ma_iload dX1_threeToTwo_198 rfl ?_
  refine ma_iadd dX1_threeToTwo_200 ?_
  refine ma_iload dX1_threeToTwo_201 rfl ?_
  refine ma_iconst dX1_threeToTwo_203 ?_
  refine ma_iadd dX1_threeToTwo_204 ?_
  refine ma_getsN (j := 3) dX1_threeToTwo_205 (by decide) gX1_173 ?_
  refine ma_iconst dX1_threeToTwo_208 ?_
  refine ma_iload dX1_threeToTwo_209 rfl ?_
  refine ma_imulK (4) dX1_threeToTwo_211 (by decide) ?_
  refine ma_iload dX1_threeToTwo_212 rfl ?_
  refine ma_iaddK (7) dX1_threeToTwo_214 (by decide) ?_
  refine ma_tald (j := 3) (n := 16) dX1_threeToTwo_215 (by decide) tl_3 (by omega) (by omega) (by decide) ?_
  refine ma_cV [_, _, _] dX1_threeToTwo_216 wX8_join lX1_176 iX8_join sX8_join rfl (by first | exact vh_57 | exact vh_58 | exact (vh_n (by omega)).trans (by assumption) | exact ((ma_up_n (Ne.symm n6)).trans ((vh_n (by omega)).trans hc))) (Nat.le_of_ble_eq_true rfl) ?_
  rw [show (ma_tf 3 7 : Int) = sx 3 1 by decide +kernel]
  refine c_join_fan (x := 3) (y := 1) ((ma_up_n (Ne.symm n6)).trans ((vh_n (by omega)).trans hc)) (ma_up_s _ _ _) (Ne.symm n6) (by constructor <;> omega) (by constructor <;> omega) (by decide) (by decide) ?_
  rw [ma_up_up]
  exact ma_vret dX1_threeToTwo_219 rfl (K H T hL)
set_option maxHeartbeats 2000000 in
theorem c_X1_three23 {h : ma_H} {b g c e nx d : Nat} {t u k : Int} {G C H T : Int → Int} {Q : Option ma_V → ma_H → Nat → Prop} (hm : h 54 = co 1 [vr 44, vr 39, vr 55, vr 57, vr 58]) (hb : h b = co 8 [vi t, vr g]) (hg : h g = ci 32 G) (hc : h c = co 8 [vi u, vr e]) (he : h e = ci 32 C) (nb : b ≠ 57 ∧ b ≠ 58) (ng : g ≠ 57 ∧ g ≠ 58) (nc : c ≠ 57 ∧ c ≠ 58) (ne : e ≠ 57 ∧ e ≠ 58 ∧ e ≠ 54) (n2 : e ≠ b) (n3 : e ≠ g) (n6 : e ≠ c) (hG : VG t G) (hk : 0 ≤ k ∧ k < 16 * t) (hu : k / 4 % 4 = 2) (hv : k % 4 = 3) (hgl : ∀ x, 0 ≤ x → x < 4 → x ≠ k / 4 % 4 → x ≠ k % 4 → 0 ≤ G (4 * (k / 16) + x) ∧ G (4 * (k / 16) + x) < 256 ∧ 0 ≤ G (4 * (k / 16) + x) % 32 ∧ G (4 * (k / 16) + x) % 32 < 24 ∧ G (4 * (k / 16) + x) / 32 < t) (h3 : k / 16 ≠ G (4 * (k / 16) + 0) / 32 ∧ k / 16 ≠ G (4 * (k / 16) + 1) / 32 ∧ G (4 * (k / 16) + 0) / 32 ≠ G (4 * (k / 16) + 1) / 32) (K : ∀ H T, (∀ j, 0 ≤ j → j < 4 * t → H j = lo (fun i => (i = k / 16 ∨ i = G (4 * (k / 16) + 0) / 32) ∨ i = G (4 * (k / 16) + 1) / 32) j ∧ T j = 0) → Q none (ma_up (vh h (uf (uf (uf (uf (uf (uf H (4 * (k / 16) + 3) (t - 3)) (4 * (k / 16) + 2) (t - 3 + 1)) (4 * (G (4 * (k / 16) + 0) / 32) + im (G (4 * (k / 16) + 0) % 32) 3) (t - 3)) (4 * (G (4 * (k / 16) + 0) / 32) + im (G (4 * (k / 16) + 0) % 32) 2) (t - 3 + 1)) (4 * (G (4 * (k / 16) + 1) / 32) + im (G (4 * (k / 16) + 1) % 32) 3) (t - 3)) (4 * (G (4 * (k / 16) + 1) / 32) + im (G (4 * (k / 16) + 1) % 32) 2) (t - 3 + 1)) (uf (uf (uf (uf (uf (uf T (4 * (k / 16) + 3) (0)) (4 * (k / 16) + 2) (0)) (4 * (G (4 * (k / 16) + 0) / 32) + im (G (4 * (k / 16) + 0) % 32) 3) (af (sx 0 3) (iv (G (4 * (k / 16) + 0) % 32)))) (4 * (G (4 * (k / 16) + 0) / 32) + im (G (4 * (k / 16) + 0) % 32) 2) (af (sx 0 2) (iv (G (4 * (k / 16) + 0) % 32)))) (4 * (G (4 * (k / 16) + 1) / 32) + im (G (4 * (k / 16) + 1) % 32) 3) (af (sx 1 3) (iv (G (4 * (k / 16) + 1) % 32)))) (4 * (G (4 * (k / 16) + 1) / 32) + im (G (4 * (k / 16) + 1) % 32) 2) (af (sx 1 2) (iv (G (4 * (k / 16) + 1) % 32))))) e (ci 32 (fj (cy G (uf (uf (uf (uf (uf (uf H (4 * (k / 16) + 3) (t - 3)) (4 * (k / 16) + 2) (t - 3 + 1)) (4 * (G (4 * (k / 16) + 0) / 32) + im (G (4 * (k / 16) + 0) % 32) 3) (t - 3)) (4 * (G (4 * (k / 16) + 0) / 32) + im (G (4 * (k / 16) + 0) % 32) 2) (t - 3 + 1)) (4 * (G (4 * (k / 16) + 1) / 32) + im (G (4 * (k / 16) + 1) % 32) 3) (t - 3)) (4 * (G (4 * (k / 16) + 1) / 32) + im (G (4 * (k / 16) + 1) % 32) 2) (t - 3 + 1)) (uf (uf (uf (uf (uf (uf T (4 * (k / 16) + 3) (0)) (4 * (k / 16) + 2) (0)) (4 * (G (4 * (k / 16) + 0) / 32) + im (G (4 * (k / 16) + 0) % 32) 3) (af (sx 0 3) (iv (G (4 * (k / 16) + 0) % 32)))) (4 * (G (4 * (k / 16) + 0) / 32) + im (G (4 * (k / 16) + 0) % 32) 2) (af (sx 0 2) (iv (G (4 * (k / 16) + 0) % 32)))) (4 * (G (4 * (k / 16) + 1) / 32) + im (G (4 * (k / 16) + 1) % 32) 3) (af (sx 1 3) (iv (G (4 * (k / 16) + 1) % 32)))) (4 * (G (4 * (k / 16) + 1) / 32) + im (G (4 * (k / 16) + 1) % 32) 2) (af (sx 1 2) (iv (G (4 * (k / 16) + 1) % 32)))) C (4 * t).toNat) (t - 3) (t - 3 + 1) 3 2))) nx) : ma_Ct mX1_threeToTwo (d + 2) 0 0 [vr 54, vr b, vi k, vr c] (vh h H T) nx Q := by
  have ht := hG.1
  have g0 := hgl 0 (by decide) (by decide) (by omega) (by omega)
  have i0 := iv_in g0.2.2.1 g0.2.2.2.1
  have b0 := im_in g0.2.2.1 g0.2.2.2.1 (show (0 : Int) ≤ 3 by decide) (by decide)
  have d0 := im_in g0.2.2.1 g0.2.2.2.1 (show (0 : Int) ≤ 2 by decide) (by decide)
  have a0 := af_in (sx_ok (i := 0) (j := 3) (by decide) (by decide) (by decide) (by decide)).1 (sx_ok (i := 0) (j := 3) (by decide) (by decide) (by decide) (by decide)).2.1 i0.1 i0.2
  have c0 := af_in (sx_ok (i := 0) (j := 2) (by decide) (by decide) (by decide) (by decide)).1 (sx_ok (i := 0) (j := 2) (by decide) (by decide) (by decide) (by decide)).2.1 i0.1 i0.2
  have g1 := hgl 1 (by decide) (by decide) (by omega) (by omega)
  have i1 := iv_in g1.2.2.1 g1.2.2.2.1
  have b1 := im_in g1.2.2.1 g1.2.2.2.1 (show (0 : Int) ≤ 3 by decide) (by decide)
  have d1 := im_in g1.2.2.1 g1.2.2.2.1 (show (0 : Int) ≤ 2 by decide) (by decide)
  have a1 := af_in (sx_ok (i := 1) (j := 3) (by decide) (by decide) (by decide) (by decide)).1 (sx_ok (i := 1) (j := 3) (by decide) (by decide) (by decide) (by decide)).2.1 i1.1 i1.2
  have c1 := af_in (sx_ok (i := 1) (j := 2) (by decide) (by decide) (by decide) (by decide)).1 (sx_ok (i := 1) (j := 2) (by decide) (by decide) (by decide) (by decide)).2.1 i1.1 i1.2
  refine ma_Ct.of (by decide +kernel) (Nat.le_of_ble_eq_true rfl) ?_
  refine ma_iload_n dX1_threeToTwo_0 rfl ?_
  refine ma_iconst dX1_threeToTwo_1 ?_
  refine ma_kshr 16 dX1_threeToTwo_2 (by decide) (by constructor <;> omega) ?_
  refine ma_istoreN dX1_threeToTwo_3 (by decide) rfl ?_
  refine ma_iload_n dX1_threeToTwo_5 rfl ?_
  refine ma_iconst dX1_threeToTwo_6 ?_
  refine ma_kshr 4 dX1_threeToTwo_7 (by decide) (by constructor <;> omega) ?_
  refine ma_iconst dX1_threeToTwo_8 ?_
  refine ma_kand 2 4 dX1_threeToTwo_9 (by decide) (by decide +kernel) (by decide) ?_
  rw [hu]
  refine ma_istoreN dX1_threeToTwo_10 (by decide) rfl ?_
  refine ma_iload_n dX1_threeToTwo_12 rfl ?_
  refine ma_iconst dX1_threeToTwo_13 ?_
  refine ma_kand 2 4 dX1_threeToTwo_14 (by decide) (by decide +kernel) (by decide) ?_
  rw [hv]
  refine ma_istoreN dX1_threeToTwo_15 (by decide) rfl ?_
  refine ma_iconst dX1_threeToTwo_17 ?_
  refine ma_iload dX1_threeToTwo_18 rfl ?_
  refine ma_ishl dX1_threeToTwo_20 ?_
  refine ma_istoreN dX1_threeToTwo_21 (by decide) rfl ?_
  refine ma_iconst dX1_threeToTwo_23 ?_
  refine ma_istoreN dX1_threeToTwo_24 (by decide) rfl ?_
  show ma_J none mX1_threeToTwo (d + 2) 0 0 26 [some (vr 54), some (vr b), some (vi k), some (vr c), some (vi (k / 16)), some (vi 2), some (vi 3), _, some (vi 0), _] [] _ nx Q
  refine ma_iload dX1_threeToTwo_26 rfl ?_
  refine ma_iconst dX1_threeToTwo_28 ?_
  refine ma_rcmp_ge 73 dX1_threeToTwo_29 rfl (by decide) (by decide) (fun c29 => absurd c29 (by decide)) (fun c29 => ?_)
  refine ma_iload dX1_threeToTwo_32 rfl ?_
  refine ma_iload dX1_threeToTwo_34 rfl ?_
  refine ma_rcmp_eq 67 dX1_threeToTwo_36 rfl (by decide) (by decide) (fun c36 => absurd c36 (by decide)) (fun c36 => ?_)
  refine ma_iload dX1_threeToTwo_39 rfl ?_
  refine ma_iload dX1_threeToTwo_41 rfl ?_
  refine ma_rcmp_eq 67 dX1_threeToTwo_43 rfl (by decide) (by decide) (fun c43 => absurd c43 (by decide)) (fun c43 => ?_)
  refine ma_iload dX1_threeToTwo_46 rfl ?_
  refine ma_iconst dX1_threeToTwo_48 ?_
  refine ma_aload_n dX1_threeToTwo_49 rfl ?_
  refine ma_getf dX1_threeToTwo_50 fX1_92 (by first | exact vh_57 | exact vh_58 | exact (vh_n (by omega)).trans (by assumption) | exact ((ma_up_n (Ne.symm n6)).trans ((vh_n (by omega)).trans hc))) (by rfl) ?_
  refine ma_iconst dX1_threeToTwo_53 ?_
  refine ma_iload dX1_threeToTwo_54 rfl ?_
  refine ma_imul dX1_threeToTwo_56 ?_
  refine ma_iload dX1_threeToTwo_57 rfl ?_
  refine ma_iadd dX1_threeToTwo_59 ?_
  refine ma_iald dX1_threeToTwo_60 (by first | exact vh_57 | exact vh_58 | exact (vh_n (by omega)).trans (by assumption) | exact ((ma_up_n (Ne.symm n6)).trans ((vh_n (by omega)).trans hc))) (by omega) (by omega) (by omega) ?_
  refine ma_iconst dX1_threeToTwo_61 ?_
  refine ma_kshr 32 dX1_threeToTwo_62 (by decide) (by constructor <;> omega) ?_
  refine ma_ishl dX1_threeToTwo_63 ?_
  refine ma_ior dX1_threeToTwo_64 ?_
  refine ma_istoreN dX1_threeToTwo_65 (by decide) rfl ?_
  refine ma_iincK (1) dX1_threeToTwo_67 rfl (by decide) rfl (by decide) ?_
  refine ma_goto 26 dX1_threeToTwo_70 rfl ?_
  show ma_J none mX1_threeToTwo (d + 2) 0 0 26 [some (vr 54), some (vr b), some (vi k), some (vr c), some (vi (k / 16)), some (vi 2), some (vi 3), _, some (vi 1), _] [] _ nx Q
  refine ma_iload dX1_threeToTwo_26 rfl ?_
  refine ma_iconst dX1_threeToTwo_28 ?_
  refine ma_rcmp_ge 73 dX1_threeToTwo_29 rfl (by decide) (by decide) (fun c29 => absurd c29 (by decide)) (fun c29 => ?_)
  refine ma_iload dX1_threeToTwo_32 rfl ?_
  refine ma_iload dX1_threeToTwo_34 rfl ?_
  refine ma_rcmp_eq 67 dX1_threeToTwo_36 rfl (by decide) (by decide) (fun c36 => absurd c36 (by decide)) (fun c36 => ?_)
  refine ma_iload dX1_threeToTwo_39 rfl ?_
  refine ma_iload dX1_threeToTwo_41 rfl ?_
  refine ma_rcmp_eq 67 dX1_threeToTwo_43 rfl (by decide) (by decide) (fun c43 => absurd c43 (by decide)) (fun c43 => ?_)
  refine ma_iload dX1_threeToTwo_46 rfl ?_
  refine ma_iconst dX1_threeToTwo_48 ?_
  refine ma_aload_n dX1_threeToTwo_49 rfl ?_
  refine ma_getf dX1_threeToTwo_50 fX1_92 (by first | exact vh_57 | exact vh_58 | exact (vh_n (by omega)).trans (by assumption) | exact ((ma_up_n (Ne.symm n6)).trans ((vh_n (by omega)).trans hc))) (by rfl) ?_
  refine ma_iconst dX1_threeToTwo_53 ?_
  refine ma_iload dX1_threeToTwo_54 rfl ?_
  refine ma_imul dX1_threeToTwo_56 ?_
  refine ma_iload dX1_threeToTwo_57 rfl ?_
  refine ma_iadd dX1_threeToTwo_59 ?_
  refine ma_iald dX1_threeToTwo_60 (by first | exact vh_57 | exact vh_58 | exact (vh_n (by omega)).trans (by assumption) | exact ((ma_up_n (Ne.symm n6)).trans ((vh_n (by omega)).trans hc))) (by omega) (by omega) (by omega) ?_
  refine ma_iconst dX1_threeToTwo_61 ?_
  refine ma_kshr 32 dX1_threeToTwo_62 (by decide) (by constructor <;> omega) ?_
  refine ma_ishl dX1_threeToTwo_63 ?_
  refine ma_ior dX1_threeToTwo_64 ?_
  refine ma_istoreN dX1_threeToTwo_65 (by decide) rfl ?_
  refine ma_iincK (2) dX1_threeToTwo_67 rfl (by decide) rfl (by decide) ?_
  refine ma_goto 26 dX1_threeToTwo_70 rfl ?_
  show ma_J none mX1_threeToTwo (d + 2) 0 0 26 [some (vr 54), some (vr b), some (vi k), some (vr c), some (vi (k / 16)), some (vi 2), some (vi 3), _, some (vi 2), _] [] _ nx Q
  refine ma_iload dX1_threeToTwo_26 rfl ?_
  refine ma_iconst dX1_threeToTwo_28 ?_
  refine ma_rcmp_ge 73 dX1_threeToTwo_29 rfl (by decide) (by decide) (fun c29 => absurd c29 (by decide)) (fun c29 => ?_)
  refine ma_iload dX1_threeToTwo_32 rfl ?_
  refine ma_iload dX1_threeToTwo_34 rfl ?_
  refine ma_rcmp_eq 67 dX1_threeToTwo_36 rfl (by decide) (by decide) (fun c36 => ?_) (fun c36 => absurd c36 (by decide))
  refine ma_iincK (3) dX1_threeToTwo_67 rfl (by decide) rfl (by decide) ?_
  refine ma_goto 26 dX1_threeToTwo_70 rfl ?_
  show ma_J none mX1_threeToTwo (d + 2) 0 0 26 [some (vr 54), some (vr b), some (vi k), some (vr c), some (vi (k / 16)), some (vi 2), some (vi 3), _, some (vi 3), _] [] _ nx Q
  refine ma_iload dX1_threeToTwo_26 rfl ?_
  refine ma_iconst dX1_threeToTwo_28 ?_
  refine ma_rcmp_ge 73 dX1_threeToTwo_29 rfl (by decide) (by decide) (fun c29 => absurd c29 (by decide)) (fun c29 => ?_)
  refine ma_iload dX1_threeToTwo_32 rfl ?_
  refine ma_iload dX1_threeToTwo_34 rfl ?_
  refine ma_rcmp_eq 67 dX1_threeToTwo_36 rfl (by decide) (by decide) (fun c36 => absurd c36 (by decide)) (fun c36 => ?_)
  refine ma_iload dX1_threeToTwo_39 rfl ?_
  refine ma_iload dX1_threeToTwo_41 rfl ?_
  refine ma_rcmp_eq 67 dX1_threeToTwo_43 rfl (by decide) (by decide) (fun c43 => ?_) (fun c43 => absurd c43 (by decide))
  refine ma_iincK (4) dX1_threeToTwo_67 rfl (by decide) rfl (by decide) ?_
  refine ma_goto 26 dX1_threeToTwo_70 rfl ?_
  show ma_J none mX1_threeToTwo (d + 2) 0 0 26 [some (vr 54), some (vr b), some (vi k), some (vr c), some (vi (k / 16)), some (vi 2), some (vi 3), _, some (vi 4), _] [] _ nx Q
  refine ma_iload dX1_threeToTwo_26 rfl ?_
  refine ma_iconst dX1_threeToTwo_28 ?_
  refine ma_rcmp_ge 73 dX1_threeToTwo_29 rfl (by decide) (by decide) (fun c29 => ?_) (fun c29 => absurd c29 (by decide))
  refine ma_aload_n dX1_threeToTwo_73 rfl ?_
  refine ma_aload_n dX1_threeToTwo_74 rfl ?_
  refine ma_iload dX1_threeToTwo_75 rfl ?_
  refine ma_cV [_, _] dX1_threeToTwo_77 wX1_layOut lX1_154 iX1_layOut sX1_layOut rfl (by first | exact vh_57 | exact vh_58 | exact (vh_n (by omega)).trans (by assumption) | exact ((ma_up_n (Ne.symm n6)).trans ((vh_n (by omega)).trans hc))) (Nat.le_of_ble_eq_true rfl) ?_
  refine c_X1_layOut (S := fun i => (i = k / 16 ∨ i = G (4 * (k / 16) + 0) / 32) ∨ i = G (4 * (k / 16) + 1) / 32) hm hb nb (by omega) (mk_or (mk_or (mk_1 (by omega) (by omega)) (by omega) (by omega)) (by omega) (by omega)) (fun H T hL => ?_)
  rw [sty_3 (by omega) (by omega) (by omega) (by omega) (by omega) (by omega) (by omega) (by omega) (by omega)]
  refine ma_istoreN dX1_threeToTwo_80 (by decide) rfl ?_
  refine ma_aload_n dX1_threeToTwo_82 rfl ?_
  refine ma_iconst dX1_threeToTwo_83 ?_
  refine ma_iload dX1_threeToTwo_84 rfl ?_
  refine ma_imul dX1_threeToTwo_86 ?_
  refine ma_iload dX1_threeToTwo_87 rfl ?_
  refine ma_iadd dX1_threeToTwo_89 ?_
  refine ma_iload dX1_threeToTwo_90 rfl ?_
  refine ma_iconst dX1_threeToTwo_92 ?_
  refine ma_cV [_, _, _] dX1_threeToTwo_93 wX1_put lX1_157 iX1_put sX1_put rfl (by first | exact vh_57 | exact vh_58 | exact (vh_n (by omega)).trans (by assumption) | exact ((ma_up_n (Ne.symm n6)).trans ((vh_n (by omega)).trans hc))) (Nat.le_of_ble_eq_true rfl) ?_
  refine c_X1_put hm (by constructor <;> omega) ?_
  refine ma_aload_n dX1_threeToTwo_96 rfl ?_
  refine ma_iconst dX1_threeToTwo_97 ?_
  refine ma_iload dX1_threeToTwo_98 rfl ?_
  refine ma_imul dX1_threeToTwo_100 ?_
  refine ma_iload dX1_threeToTwo_101 rfl ?_
  refine ma_iadd dX1_threeToTwo_103 ?_
  refine ma_iload dX1_threeToTwo_104 rfl ?_
  refine ma_iconst dX1_threeToTwo_106 ?_
  refine ma_iadd dX1_threeToTwo_107 ?_
  refine ma_iconst dX1_threeToTwo_108 ?_
  refine ma_cV [_, _, _] dX1_threeToTwo_109 wX1_put lX1_157 iX1_put sX1_put rfl (by first | exact vh_57 | exact vh_58 | exact (vh_n (by omega)).trans (by assumption) | exact ((ma_up_n (Ne.symm n6)).trans ((vh_n (by omega)).trans hc))) (Nat.le_of_ble_eq_true rfl) ?_
  refine c_X1_put hm (by constructor <;> omega) ?_
  refine ma_iconst dX1_threeToTwo_112 ?_
  refine ma_istoreN dX1_threeToTwo_113 (by decide) rfl ?_
  show ma_J none mX1_threeToTwo (d + 2) 0 0 115 [some (vr 54), some (vr b), some (vi k), some (vr c), some (vi (k / 16)), some (vi 2), some (vi 3), _, some (vi (t - 3)), some (vi 0)] [] _ nx Q
  refine ma_iload dX1_threeToTwo_115 rfl ?_
  refine ma_iconst dX1_threeToTwo_117 ?_
  refine ma_rcmp_ge 187 dX1_threeToTwo_118 rfl (by decide) (by decide) (fun c118 => absurd c118 (by decide)) (fun c118 => ?_)
  refine ma_iload dX1_threeToTwo_121 rfl ?_
  refine ma_iload dX1_threeToTwo_123 rfl ?_
  refine ma_rcmp_eq 181 dX1_threeToTwo_125 rfl (by decide) (by decide) (fun c125 => absurd c125 (by decide)) (fun c125 => ?_)
  refine ma_iload dX1_threeToTwo_128 rfl ?_
  refine ma_iload dX1_threeToTwo_130 rfl ?_
  refine ma_rcmp_eq 181 dX1_threeToTwo_132 rfl (by decide) (by decide) (fun c132 => absurd c132 (by decide)) (fun c132 => ?_)
  refine ma_aload_n dX1_threeToTwo_135 rfl ?_
  refine ma_aload_n dX1_threeToTwo_136 rfl ?_
  refine ma_getf dX1_threeToTwo_137 fX1_92 (by first | exact vh_57 | exact vh_58 | exact (vh_n (by omega)).trans (by assumption) | exact ((ma_up_n (Ne.symm n6)).trans ((vh_n (by omega)).trans hc))) (by rfl) ?_
  refine ma_iconst dX1_threeToTwo_140 ?_
  refine ma_iload dX1_threeToTwo_141 rfl ?_
  refine ma_imul dX1_threeToTwo_143 ?_
  refine ma_iload dX1_threeToTwo_144 rfl ?_
  refine ma_iadd dX1_threeToTwo_146 ?_
  refine ma_iald dX1_threeToTwo_147 (by first | exact vh_57 | exact vh_58 | exact (vh_n (by omega)).trans (by assumption) | exact ((ma_up_n (Ne.symm n6)).trans ((vh_n (by omega)).trans hc))) (by omega) (by omega) (by omega) ?_
  refine ma_iload dX1_threeToTwo_148 rfl ?_
  refine ma_iload dX1_threeToTwo_150 rfl ?_
  refine ma_iload dX1_threeToTwo_152 rfl ?_
  refine ma_cV [_, _, _, _] dX1_threeToTwo_154 wX1_putBeyond lX1_161 iX1_putBeyond sX1_putBeyond rfl (by first | exact vh_57 | exact vh_58 | exact (vh_n (by omega)).trans (by assumption) | exact ((ma_up_n (Ne.symm n6)).trans ((vh_n (by omega)).trans hc))) (Nat.le_of_ble_eq_true rfl) ?_
  refine c_X1_putBeyond hm (by constructor <;> omega) (by omega) (by decide) (by decide) ?_
  refine ma_aload_n dX1_threeToTwo_157 rfl ?_
  refine ma_aload_n dX1_threeToTwo_158 rfl ?_
  refine ma_getf dX1_threeToTwo_159 fX1_92 (by first | exact vh_57 | exact vh_58 | exact (vh_n (by omega)).trans (by assumption) | exact ((ma_up_n (Ne.symm n6)).trans ((vh_n (by omega)).trans hc))) (by rfl) ?_
  refine ma_iconst dX1_threeToTwo_162 ?_
  refine ma_iload dX1_threeToTwo_163 rfl ?_
  refine ma_imul dX1_threeToTwo_165 ?_
  refine ma_iload dX1_threeToTwo_166 rfl ?_
  refine ma_iadd dX1_threeToTwo_168 ?_
  refine ma_iald dX1_threeToTwo_169 (by first | exact vh_57 | exact vh_58 | exact (vh_n (by omega)).trans (by assumption) | exact ((ma_up_n (Ne.symm n6)).trans ((vh_n (by omega)).trans hc))) (by omega) (by omega) (by omega) ?_
  refine ma_iload dX1_threeToTwo_170 rfl ?_
  refine ma_iload dX1_threeToTwo_172 rfl ?_
  refine ma_iload dX1_threeToTwo_174 rfl ?_
  refine ma_iconst dX1_threeToTwo_176 ?_
  refine ma_iadd dX1_threeToTwo_177 ?_
  refine ma_cV [_, _, _, _] dX1_threeToTwo_178 wX1_putBeyond lX1_161 iX1_putBeyond sX1_putBeyond rfl (by first | exact vh_57 | exact vh_58 | exact (vh_n (by omega)).trans (by assumption) | exact ((ma_up_n (Ne.symm n6)).trans ((vh_n (by omega)).trans hc))) (Nat.le_of_ble_eq_true rfl) ?_
  refine c_X1_putBeyond hm (by constructor <;> omega) (by omega) (by decide) (by decide) ?_
  refine ma_iincK (1) dX1_threeToTwo_181 rfl (by decide) rfl (by decide) ?_
  refine ma_goto 115 dX1_threeToTwo_184 rfl ?_
  show ma_J none mX1_threeToTwo (d + 2) 0 0 115 [some (vr 54), some (vr b), some (vi k), some (vr c), some (vi (k / 16)), some (vi 2), some (vi 3), _, some (vi (t - 3)), some (vi 1)] [] _ nx Q
  refine ma_iload dX1_threeToTwo_115 rfl ?_
  refine ma_iconst dX1_threeToTwo_117 ?_
  refine ma_rcmp_ge 187 dX1_threeToTwo_118 rfl (by decide) (by decide) (fun c118 => absurd c118 (by decide)) (fun c118 => ?_)
  refine ma_iload dX1_threeToTwo_121 rfl ?_
  refine ma_iload dX1_threeToTwo_123 rfl ?_
  refine ma_rcmp_eq 181 dX1_threeToTwo_125 rfl (by decide) (by decide) (fun c125 => absurd c125 (by decide)) (fun c125 => ?_)
  refine ma_iload dX1_threeToTwo_128 rfl ?_
  refine ma_iload dX1_threeToTwo_130 rfl ?_
  refine ma_rcmp_eq 181 dX1_threeToTwo_132 rfl (by decide) (by decide) (fun c132 => absurd c132 (by decide)) (fun c132 => ?_)
  refine ma_aload_n dX1_threeToTwo_135 rfl ?_
  refine ma_aload_n dX1_threeToTwo_136 rfl ?_
  refine ma_getf dX1_threeToTwo_137 fX1_92 (by first | exact vh_57 | exact vh_58 | exact (vh_n (by omega)).trans (by assumption) | exact ((ma_up_n (Ne.symm n6)).trans ((vh_n (by omega)).trans hc))) (by rfl) ?_
  refine ma_iconst dX1_threeToTwo_140 ?_
  refine ma_iload dX1_threeToTwo_141 rfl ?_
  refine ma_imul dX1_threeToTwo_143 ?_
  refine ma_iload dX1_threeToTwo_144 rfl ?_
  refine ma_iadd dX1_threeToTwo_146 ?_
  refine ma_iald dX1_threeToTwo_147 (by first | exact vh_57 | exact vh_58 | exact (vh_n (by omega)).trans (by assumption) | exact ((ma_up_n (Ne.symm n6)).trans ((vh_n (by omega)).trans hc))) (by omega) (by omega) (by omega) ?_
  refine ma_iload dX1_threeToTwo_148 rfl ?_
  refine ma_iload dX1_threeToTwo_150 rfl ?_
  refine ma_iload dX1_threeToTwo_152 rfl ?_
  refine ma_cV [_, _, _, _] dX1_threeToTwo_154 wX1_putBeyond lX1_161 iX1_putBeyond sX1_putBeyond rfl (by first | exact vh_57 | exact vh_58 | exact (vh_n (by omega)).trans (by assumption) | exact ((ma_up_n (Ne.symm n6)).trans ((vh_n (by omega)).trans hc))) (Nat.le_of_ble_eq_true rfl) ?_
  refine c_X1_putBeyond hm (by constructor <;> omega) (by omega) (by decide) (by decide) ?_
  refine ma_aload_n dX1_threeToTwo_157 rfl ?_
  refine ma_aload_n dX1_threeToTwo_158 rfl ?_
  refine ma_getf dX1_threeToTwo_159 fX1_92 (by first | exact vh_57 | exact vh_58 | exact (vh_n (by omega)).trans (by assumption) | exact ((ma_up_n (Ne.symm n6)).trans ((vh_n (by omega)).trans hc))) (by rfl) ?_
  refine ma_iconst dX1_threeToTwo_162 ?_
  refine ma_iload dX1_threeToTwo_163 rfl ?_
  refine ma_imul dX1_threeToTwo_165 ?_
  refine ma_iload dX1_threeToTwo_166 rfl ?_
  refine ma_iadd dX1_threeToTwo_168 ?_
  refine ma_iald dX1_threeToTwo_169 (by first | exact vh_57 | exact vh_58 | exact (vh_n (by omega)).trans (by assumption) | exact ((ma_up_n (Ne.symm n6)).trans ((vh_n (by omega)).trans hc))) (by omega) (by omega) (by omega) ?_
  refine ma_iload dX1_threeToTwo_170 rfl ?_
  refine ma_iload dX1_threeToTwo_172 rfl ?_
  refine ma_iload dX1_threeToTwo_174 rfl ?_
  refine ma_iconst dX1_threeToTwo_176 ?_
  refine ma_iadd dX1_threeToTwo_177 ?_
  refine ma_cV [_, _, _, _] dX1_threeToTwo_178 wX1_putBeyond lX1_161 iX1_putBeyond sX1_putBeyond rfl (by first | exact vh_57 | exact vh_58 | exact (vh_n (by omega)).trans (by assumption) | exact ((ma_up_n (Ne.symm n6)).trans ((vh_n (by omega)).trans hc))) (Nat.le_of_ble_eq_true rfl) ?_
  refine c_X1_putBeyond hm (by constructor <;> omega) (by omega) (by decide) (by decide) ?_
  refine ma_iincK (2) dX1_threeToTwo_181 rfl (by decide) rfl (by decide) ?_
  refine ma_goto 115 dX1_threeToTwo_184 rfl ?_
  show ma_J none mX1_threeToTwo (d + 2) 0 0 115 [some (vr 54), some (vr b), some (vi k), some (vr c), some (vi (k / 16)), some (vi 2), some (vi 3), _, some (vi (t - 3)), some (vi 2)] [] _ nx Q
  refine ma_iload dX1_threeToTwo_115 rfl ?_
  refine ma_iconst dX1_threeToTwo_117 ?_
  refine ma_rcmp_ge 187 dX1_threeToTwo_118 rfl (by decide) (by decide) (fun c118 => absurd c118 (by decide)) (fun c118 => ?_)
  refine ma_iload dX1_threeToTwo_121 rfl ?_
  refine ma_iload dX1_threeToTwo_123 rfl ?_
  refine ma_rcmp_eq 181 dX1_threeToTwo_125 rfl (by decide) (by decide) (fun c125 => ?_) (fun c125 => absurd c125 (by decide))
  refine ma_iincK (3) dX1_threeToTwo_181 rfl (by decide) rfl (by decide) ?_
  refine ma_goto 115 dX1_threeToTwo_184 rfl ?_
  show ma_J none mX1_threeToTwo (d + 2) 0 0 115 [some (vr 54), some (vr b), some (vi k), some (vr c), some (vi (k / 16)), some (vi 2), some (vi 3), _, some (vi (t - 3)), some (vi 3)] [] _ nx Q
  refine ma_iload dX1_threeToTwo_115 rfl ?_
  refine ma_iconst dX1_threeToTwo_117 ?_
  refine ma_rcmp_ge 187 dX1_threeToTwo_118 rfl (by decide) (by decide) (fun c118 => absurd c118 (by decide)) (fun c118 => ?_)
  refine ma_iload dX1_threeToTwo_121 rfl ?_
  refine ma_iload dX1_threeToTwo_123 rfl ?_
  refine ma_rcmp_eq 181 dX1_threeToTwo_125 rfl (by decide) (by decide) (fun c125 => absurd c125 (by decide)) (fun c125 => ?_)
  refine ma_iload dX1_threeToTwo_128 rfl ?_
  refine ma_iload dX1_threeToTwo_130 rfl ?_
  refine ma_rcmp_eq 181 dX1_threeToTwo_132 rfl (by decide) (by decide) (fun c132 => ?_) (fun c132 => absurd c132 (by decide))
  refine ma_iincK (4) dX1_threeToTwo_181 rfl (by decide) rfl (by decide) ?_
  refine ma_goto 115 dX1_threeToTwo_184 rfl ?_
  show ma_J none mX1_threeToTwo (d + 2) 0 0 115 [some (vr 54), some (vr b), some (vi k), some (vr c), some (vi (k / 16)), some (vi 2), some (vi 3), _, some (vi (t - 3)), some (vi 4)] [] _ nx Q
  refine ma_iload dX1_threeToTwo_115 rfl ?_
  refine ma_iconst dX1_threeToTwo_117 ?_
  refine ma_rcmp_ge 187 dX1_threeToTwo_118 rfl (by decide) (by decide) (fun c118 => ?_) (fun c118 => absurd c118 (by decide))
  refine ma_aload_n dX1_threeToTwo_187 rfl ?_
  refine ma_aload_n dX1_threeToTwo_188 rfl ?_
  refine ma_aload_n dX1_threeToTwo_189 rfl ?_
  refine ma_cV [_, _] dX1_threeToTwo_190 wX1_carry lX1_165 iX1_carry sX1_carry rfl (by first | exact vh_57 | exact vh_58 | exact (vh_n (by omega)).trans (by assumption) | exact ((ma_up_n (Ne.symm n6)).trans ((vh_n (by omega)).trans hc))) (Nat.le_of_ble_eq_true rfl) ?_
  refine c_X1_carry ((vh_n (by omega)).trans hm) ((vh_n (by omega)).trans hb) ((vh_n (by omega)).trans hg) vh_57 vh_58 ((vh_n (by omega)).trans hc) ne.2.2 n2 n3 ne.1 ne.2.1 n6 hG (uf_r (uf_r (uf_r (uf_r (uf_r (uf_r (fun j j0 j1 => by rw [(hL j j0 j1).1]; exact lo_in _ (by omega) j j0 j1) (by constructor <;> omega)) (by constructor <;> omega)) (by constructor <;> omega)) (by constructor <;> omega)) (by constructor <;> omega)) (by constructor <;> omega)) (uf_r (uf_r (uf_r (uf_r (uf_r (uf_r (fun j j0 j1 => by have := (hL j j0 j1).2; omega) (by decide)) (by decide)) a0) c0) a1) c1) ((vh_n (by omega)).trans he) ?_
  refine ma_aload_n dX1_threeToTwo_193 rfl ?_
  refine ma_iconst dX1_threeToTwo_194 ?_
  refine ma_iload dX1_threeToTwo_195 rfl ?_
  refine ma_imul dX1_threeToTwo_197 ?_
  refine ma_iload dX1_threeToTwo_198 rfl ?_
  refine ma_iadd dX1_threeToTwo_200 ?_
  refine ma_iload dX1_threeToTwo_201 rfl ?_
  refine ma_iconst dX1_threeToTwo_203 ?_
  refine ma_iadd dX1_threeToTwo_204 ?_
  refine ma_getsN (j := 3) dX1_threeToTwo_205 (by decide) gX1_173 ?_
  refine ma_iconst dX1_threeToTwo_208 ?_
  refine ma_iload dX1_threeToTwo_209 rfl ?_
  refine ma_imulK (8) dX1_threeToTwo_211 (by decide) ?_
  refine ma_iload dX1_threeToTwo_212 rfl ?_
  refine ma_iaddK (11) dX1_threeToTwo_214 (by decide) ?_
  refine ma_tald (j := 3) (n := 16) dX1_threeToTwo_215 (by decide) tl_3 (by omega) (by omega) (by decide) ?_
  refine ma_cV [_, _, _] dX1_threeToTwo_216 wX8_join lX1_176 iX8_join sX8_join rfl (by first | exact vh_57 | exact vh_58 | exact (vh_n (by omega)).trans (by assumption) | exact ((ma_up_n (Ne.symm n6)).trans ((vh_n (by omega)).trans hc))) (Nat.le_of_ble_eq_true rfl) ?_
  rw [show (ma_tf 3 11 : Int) = sx 3 2 by decide +kernel]
  refine c_join_fan (x := 3) (y := 2) ((ma_up_n (Ne.symm n6)).trans ((vh_n (by omega)).trans hc)) (ma_up_s _ _ _) (Ne.symm n6) (by constructor <;> omega) (by constructor <;> omega) (by decide) (by decide) ?_
  rw [ma_up_up]
  exact ma_vret dX1_threeToTwo_219 rfl (K H T hL)
