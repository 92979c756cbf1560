/-- the coming ones are labelled -/
theorem lt_j {t : Int} {G : Int → Int} {a : Int} {X : Int → Prop} {nw : Int → Int} {s t' : Int} {H T C go gl : Int → Int} {gm : Int} {cl : Int → Int} {cm : Int} {la : Int → Int} {e : Int} {ix jn nu M Sg : Int → Int} (h : CFG t G a X nw s t' H T C go gl gm cl cm la e ix jn nu M Sg) {cu : Int → Int} (hcu : ∀ y, 0 ≤ y → y < 4 → ¬ X y → cu (jn y) = la y) : ∀ j, 0 ≤ j → j < cm → LT cl j (cu j) := by
  intro j j0 j1
  obtain ⟨y, y0, y1, hy, e⟩ := h.2.2.2.2.2.1.2.2.2 j j0 j1
  rw [← e, hcu y y0 y1 hy]
  exact lt_y h y0 y1 hy
theorem cfg_n {t : Int} {G : Int → Int} {a : Int} {X : Int → Prop} {nw : Int → Int} {s t' : Int} {H T C go gl : Int → Int} {gm : Int} {cl : Int → Int} {cm : Int} {la : Int → Int} {e : Int} {ix jn nu M Sg : Int → Int} (h : CFG t G a X nw s t' H T C go gl gm cl cm la e ix jn nu M Sg) {y : Int} (y0 : 0 ≤ y) (y1 : y < 4) (hy : ¬ X y) : (0 ≤ jn y ∧ jn y < cm) ∧ (0 ≤ nu y ∧ nu y < 24) ∧ (1 ≤ cm ∧ cm ≤ 4) ∧ 0 ≤ s ∧ s + cm ≤ 8 := by
  have q := h.2.2.2.2.2.1.2.1 y y0 y1 hy
  have c := h.2.2.2.2.2.1.1
  have f := h.2.1.1
  have : 0 ≤ sty (gS G a X) t := (ct_in _ _).1
  have e := h.2.2.2.2.2.2.1
  exact ⟨⟨q.1, q.2.1⟩, q.2.2.1, c, by omega, by omega⟩
theorem in_q {t : Int} {G : Int → Int} {a : Int} {X : Int → Prop} {nw : Int → Int} {s t' : Int} {H T C go gl : Int → Int} {gm : Int} {cl : Int → Int} {cm : Int} {la : Int → Int} {e : Int} {ix jn nu M Sg : Int → Int} (h : CFG t G a X nw s t' H T C go gl gm cl cm la e ix jn nu M Sg) {y c : Int} (y0 : 0 ≤ y) (y1 : y < 4) (hy : ¬ X y) (c0 : 0 ≤ c) (c1 : c < 4) (hc : ¬ X c) (cy : c ≠ y) : (0 ≤ af (nu c) (af (sx y c) (iv (nu y))) ∧ af (nu c) (af (sx y c) (iv (nu y))) < 24) ∧ im (af (nu c) (af (sx y c) (iv (nu y)))) (im (nu y) c) = im (nu c) y ∧ ∀ k, 0 ≤ k → k < 4 → k ≠ im (nu y) c → cl (4 * jn c + im (af (nu c) (af (sx y c) (iv (nu y)))) k) = cl (4 * jn y + k) := by
  obtain ⟨-, ny, -⟩ := cfg_n h y0 y1 hy
  obtain ⟨-, nc, -⟩ := cfg_n h c0 c1 hc
  have q1 := (h.2.2.2.2.2.1.2.1 y y0 y1 hy).2.2.2
  have q2 := (h.2.2.2.2.2.1.2.1 c c0 c1 hc).2.2.2
  have sk := sx_ok y0 y1 c0 c1
  have vy := iv_in ny.1 ny.2
  have k1 := af_in sk.1 sk.2.1 vy.1 vy.2
  have k2 := af_in nc.1 nc.2 k1.1 k1.2
  have ti : ∀ d, 0 ≤ d → d < 4 → im (af (nu c) (af (sx y c) (iv (nu y)))) (im (nu y) d) = im (nu c) (im (sx y c) d) := fun d d0 d1 => by
    have w := im_in ny.1 ny.2 d0 d1
    rw [im_af nc.1 nc.2 k1.1 k1.2 w.1 w.2, im_af sk.1 sk.2.1 vy.1 vy.2 w.1 w.2, (im_mi ny.1 ny.2 d0 d1).1]
  refine ⟨k2, by rw [ti c c0 c1, sk.2.2.2.1], fun k k0 k1' kn => ?_⟩
  have w := im_in vy.1 vy.2 k0 k1'
  have e2 := (im_mi ny.1 ny.2 k0 k1').2
  have nd : im (iv (nu y)) k ≠ c := fun z => kn (by rw [← z, e2])
  have t1 := ti _ w.1 w.2
  have t2 := q1 _ w.1 w.2
  rw [e2] at t1 t2
  rw [t1, t2]
  by_cases z : im (iv (nu y)) k = y
  · rw [z, sk.2.2.1, q2 c c0 c1, if_pos rfl, if_pos rfl]
  · rw [sx_c y0 y1 c0 c1 w.1 w.2 z nd, q2 _ w.1 w.2, if_neg nd, if_neg z]
set_option maxHeartbeats 2000000 in
theorem l_X12_inside30 {h : ma_H} {nx d : Nat} {s j j' f f' u u' q : Int} {cl TH : Int → Int} {Q : Option ma_V → ma_H → Nat → Prop} {I : Nat → Int} (hM : h 73 = co 12 (mo I)) (h94 : h 94 = ci 16 cl) (j0 : 0 ≤ j ∧ j < 4) (j0' : 0 ≤ j' ∧ j' < 4) (f0 : 0 ≤ f ∧ f < 4) (f0' : 0 ≤ f' ∧ f' < 4) (hL : LT cl j u) (hL' : LT cl j' u') (hq : 0 ≤ q ∧ q < 24) (eq1 : im q f = f') (hl : ∀ k, 0 ≤ k → k < 4 → k ≠ f → cl (4 * j' + im q k) = cl (4 * j + k)) (KO : ∀ V, (∀ k, 0 ≤ k → k < 4 → V k = im q k) → ma_J none mX12_inside (d + 2) 0 0 84 [some (vr 73), some (vi s), some (vi j), some (vi f), some (vi (4 * j' + f')), some (vi 4)] [] (ma_up (ma_up h 84 (ci 4 V)) 96 (ci 33 TH)) nx Q) :
    ∀ (m : Nat) (k : Int) (V : Int → Int), (0 ≤ k) → (k ≤ 4) → (4 - k < m) → (∀ k', 0 ≤ k' → k' < k → V k' = im q k') → ma_J none mX12_inside (d + 2) 0 0 30 [some (vr 73), some (vi s), some (vi j), some (vi f), some (vi (4 * j' + f')), some (vi k)] [] (ma_up (ma_up h 84 (ci 4 V)) 96 (ci 33 TH)) nx Q := by
  intro m
  induction m with
  | zero => intro k V k0 k1 k2 hV; omega
  | succ m ih =>
    intro k V k0 k1 k2 hV
    refine ma_iload dX12_inside_30 rfl ?_
    refine ma_iconst dX12_inside_32 ?_
    refine ma_rcmp_ge 84 dX12_inside_33 rfl (by constructor <;> omega) (by constructor <;> omega) (fun c33 => ?_) (fun c33 => ?_)
    · -- 84
      have e4 : k = 4 := by omega
      subst e4
      exact KO V (fun k k0 k1 => hV k k0 k1)
    · -- 36
      refine ma_aload_n dX12_inside_36 rfl ?_
      refine ma_getf dX12_inside_37 fX12_42 (by first | exact ma_up_s _ _ _ | exact (ma_up_n (by decide)).trans (ma_up_s _ _ _) | exact (ma_up_n (by first | decide | omega)).trans ((ma_up_n (by first | decide | omega)).trans (by assumption))) (by rfl) ?_
      refine ma_iload dX12_inside_40 rfl ?_
      refine ma_iload dX12_inside_42 rfl ?_
      refine ma_iload_n dX12_inside_44 rfl ?_
      refine ma_rcmp_ne 55 dX12_inside_45 rfl (by constructor <;> omega) (by constructor <;> omega) (fun c45 => ?_) (fun c45 => ?_)
      · -- 55
        refine ma_aload_n dX12_inside_55 rfl ?_
        refine ma_getf dX12_inside_56 fX12_72 (by first | exact ma_up_s _ _ _ | exact (ma_up_n (by decide)).trans (ma_up_s _ _ _) | exact (ma_up_n (by first | decide | omega)).trans ((ma_up_n (by first | decide | omega)).trans (by assumption))) (by rfl) ?_
        refine ma_iload dX12_inside_59 rfl ?_
        refine ma_iconst dX12_inside_61 ?_
        refine ma_kdiv dX12_inside_62 (by constructor <;> omega) (by constructor <;> omega) ?_
        rw [show (4 * j' + f') / 4 = j' by omega]
        refine ma_aload_n dX12_inside_63 rfl ?_
        refine ma_getf dX12_inside_64 fX12_72 (by first | exact ma_up_s _ _ _ | exact (ma_up_n (by decide)).trans (ma_up_s _ _ _) | exact (ma_up_n (by first | decide | omega)).trans ((ma_up_n (by first | decide | omega)).trans (by assumption))) (by rfl) ?_
        refine ma_iconst dX12_inside_67 ?_
        refine ma_iload_n dX12_inside_68 rfl ?_
        refine ma_imul dX12_inside_69 ?_
        refine ma_iload dX12_inside_70 rfl ?_
        refine ma_iadd dX12_inside_72 ?_
        refine ma_iald dX12_inside_73 (by first | exact ma_up_s _ _ _ | exact (ma_up_n (by decide)).trans (ma_up_s _ _ _) | exact (ma_up_n (by first | decide | omega)).trans ((ma_up_n (by first | decide | omega)).trans (by assumption))) (by omega) (by omega) (by omega) ?_
        refine ma_cS [_, _, _] dX12_inside_74 wX12_cornerOf lX12_399 tX12_cornerOf (Nat.le_of_ble_eq_true rfl) ?_
        refine c_X12_cornerOf ((ma_up_n (by decide)).trans ((ma_up_n (by decide)).trans h94)) hL' j0' (im_in hq.1 hq.2 k0 (show k < 4 by omega)) (hl k k0 (by omega) c45) ?_
        refine ma_iast dX12_inside_77 (by first | exact ma_up_s _ _ _ | exact (ma_up_n (by decide)).trans (ma_up_s _ _ _) | exact (ma_up_n (by first | decide | omega)).trans ((ma_up_n (by first | decide | omega)).trans (by assumption))) (by omega) (by omega) (by omega) ?_
        rw [fl_e (by decide)]
        refine ma_iincN dX12_inside_78 rfl (by decide) rfl ?_
        refine ma_goto 30 dX12_inside_81 rfl ?_
        exact ih (k + 1) _ (by omega) (by omega) (by omega) (fun k' a0 a1 => by
          by_cases z : k' = k
          · rw [z, uf_s]
          · rw [uf_n z]; exact hV k' a0 (by omega))
      · -- 48
        refine ma_iload dX12_inside_48 rfl ?_
        refine ma_iconst dX12_inside_50 ?_
        refine ma_kmod dX12_inside_51 (by constructor <;> omega) (by constructor <;> omega) ?_
        rw [show (4 * j' + f') % 4 = f' by omega]
        refine ma_goto 77 dX12_inside_52 rfl ?_
        refine ma_iast dX12_inside_77 (by first | exact ma_up_s _ _ _ | exact (ma_up_n (by decide)).trans (ma_up_s _ _ _) | exact (ma_up_n (by first | decide | omega)).trans ((ma_up_n (by first | decide | omega)).trans (by assumption))) (by omega) (by omega) (by omega) ?_
        rw [fl_e (by decide)]
        refine ma_iincN dX12_inside_78 rfl (by decide) rfl ?_
        refine ma_goto 30 dX12_inside_81 rfl ?_
        exact ih (k + 1) _ (by omega) (by omega) (by omega) (fun k' a0 a1 => by
          by_cases z : k' = k
          · rw [z, uf_s]; rw [show k = f by omega]; exact eq1.symm
          · rw [uf_n z]; exact hV k' a0 (by omega))
set_option maxHeartbeats 2000000 in
theorem c_X12_inside {h : ma_H} {nx d : Nat} {y c : Int} {V TH pf cu : Int → Int} {Q : Option ma_V → ma_H → Nat → Prop} {I : Nat → Int} {t : Int} {G : Int → Int} {a : Int} {X : Int → Prop} {nw : Int → Int} {s t' : Int} {H T C go gl : Int → Int} {gm : Int} {cl : Int → Int} {cm : Int} {la : Int → Int} {e : Int} {ix jn nu M Sg : Int → Int} (hcf : CFG t G a X nw s t' H T C go gl gm cl cm la e ix jn nu M Sg) (hM : h 73 = co 12 (mo I)) (h77 : h 77 = ci 64 pf) (hf : PB pf) (h94 : h 94 = ci 16 cl) (hg : I 34 = cm) (hcu : ∀ y, 0 ≤ y → y < 4 → ¬ X y → cu (jn y) = la y) (y0 : 0 ≤ y) (y1 : y < 4) (hy : ¬ X y) (c0 : 0 ≤ c) (c1 : c < 4) (K0 : X c ∨ c = y → Q none (ma_up (ma_up h 84 (ci 4 V)) 96 (ci 33 TH)) nx) (K1 : ¬ X c → c ≠ y → ∀ V', Q none (ma_up (ma_up h 84 (ci 4 V')) 96 (ci 33 (uf TH (1 + 4 * (s + jn y) + im (nu y) c) (24 * (s + jn c) + af (nu c) (af (sx y c) (iv (nu y))))))) nx) : ma_Ct mX12_inside (d + 2) 0 0 [vr 73, vi s, vi (jn y), vi (im (nu y) c)] (ma_up (ma_up h 84 (ci 4 V)) 96 (ci 33 TH)) nx Q := by
  obtain ⟨nj, ny, ncm, ns⟩ := cfg_n hcf y0 y1 hy
  have w := im_in ny.1 ny.2 c0 c1
  have Ly := lt_y hcf y0 y1 hy
  have mb := mk5_b Ly w.1 w.2
  refine ma_Ct.of (by decide +kernel) (Nat.le_of_ble_eq_true rfl) ?_
  refine ma_aload_n dX12_inside_0 rfl ?_
  refine ma_aload_n dX12_inside_1 rfl ?_
  refine ma_getf dX12_inside_2 fX12_72 (by first | exact ma_up_s _ _ _ | exact (ma_up_n (by decide)).trans (ma_up_s _ _ _) | exact (ma_up_n (by first | decide | omega)).trans ((ma_up_n (by first | decide | omega)).trans (by assumption))) (by rfl) ?_
  refine ma_iload_n dX12_inside_5 rfl ?_
  refine ma_iload_n dX12_inside_6 rfl ?_
  refine ma_cS [_, _, _] dX12_inside_7 wX12_labelsOf lX12_384 tX12_labelsOf (Nat.le_of_ble_eq_true rfl) ?_
  refine c_X12_labelsOf ((ma_up_n (by decide)).trans ((ma_up_n (by decide)).trans h94)) Ly (by constructor <;> omega) w ?_
  refine ma_iconst dX12_inside_10 ?_
  refine ma_iload_n dX12_inside_11 rfl ?_
  refine ma_imul dX12_inside_12 ?_
  refine ma_iload_n dX12_inside_13 rfl ?_
  refine ma_iadd dX12_inside_14 ?_
  refine ma_cV [_, _] dX12_inside_15 wX12_faceWith lX12_396 iX12_faceWith sX12_faceWith rfl (by first | exact ma_up_s _ _ _ | exact (ma_up_n (by decide)).trans (ma_up_s _ _ _) | exact (ma_up_n (by first | decide | omega)).trans ((ma_up_n (by first | decide | omega)).trans (by assumption))) (Nat.le_of_ble_eq_true rfl) ?_
  refine c_X12_faceWith ((ma_up_n (by decide)).trans ((ma_up_n (by decide)).trans hM)) ((ma_up_n (by decide)).trans ((ma_up_n (by decide)).trans h94)) hg (by omega) (lt_j hcf hcu) (by unfold rg; omega) (by unfold rg; omega) (fun j' f' a0 a1 b0 b1 hne hm => ?_) (fun hno => ?_)
  · obtain ⟨y', y0', y1', hy', ej⟩ := hcf.2.2.2.2.2.1.2.2.2 j' a0 a1
    rw [← ej, hcu y' y0' y1' hy'] at hm
    rw [← ej] at hne
    obtain ⟨x1, x2, ey, ef⟩ := cm_in hcf y0 y1 hy c0 c1 y0' y1' hy' b0 b1 hne hm
    rw [← ej, ey, ef]
    have iq := in_q hcf y0 y1 hy c0 c1 x1 x2
    obtain ⟨nj', nc', -⟩ := cfg_n hcf c0 c1 x1
    have w' := im_in nc'.1 nc'.2 y0 y1
    have Lc := lt_y hcf c0 c1 x1
    refine ma_istoreN dX12_inside_18 (by decide) rfl ?_
    refine ma_iload dX12_inside_20 rfl ?_
    refine ma_iconst dX12_inside_22 ?_
    refine ma_rcmp_ne 27 dX12_inside_23 rfl (by constructor <;> omega) (by constructor <;> omega) (fun c23 => ?_) (fun c23 => absurd c23 (by omega))
    refine ma_iconst dX12_inside_27 ?_
    refine ma_istoreN dX12_inside_28 (by decide) rfl ?_
    refine l_X12_inside30 hM h94 (by constructor <;> omega) (by constructor <;> omega) w w' Ly Lc iq.1 iq.2.1 iq.2.2 (fun V' hV' => ?_) 5 0 V (by omega) (by omega) (by omega) (fun k' a0 a1 => by omega)
    refine ma_aload_n dX12_inside_84 rfl ?_
    refine ma_getf dX12_inside_85 fX12_78 (by first | exact ma_up_s _ _ _ | exact (ma_up_n (by decide)).trans (ma_up_s _ _ _) | exact (ma_up_n (by first | decide | omega)).trans ((ma_up_n (by first | decide | omega)).trans (by assumption))) (by rfl) ?_
    refine ma_iload_n dX12_inside_88 rfl ?_
    refine ma_iload_n dX12_inside_89 rfl ?_
    refine ma_iadd dX12_inside_90 ?_
    refine ma_iload_n dX12_inside_91 rfl ?_
    refine ma_bipush dX12_inside_92 ?_
    refine ma_iload_n dX12_inside_94 rfl ?_
    refine ma_iload dX12_inside_95 rfl ?_
    refine ma_iconst dX12_inside_97 ?_
    refine ma_kdiv dX12_inside_98 (by constructor <;> omega) (by constructor <;> omega) ?_
    rw [show (4 * jn c + im (nu c) y) / 4 = jn c by omega]
    refine ma_iadd dX12_inside_99 ?_
    refine ma_imul dX12_inside_100 ?_
    refine ma_aload_n dX12_inside_101 rfl ?_
    refine ma_aload_n dX12_inside_102 rfl ?_
    refine ma_getf dX12_inside_103 fX12_42 (by first | exact ma_up_s _ _ _ | exact (ma_up_n (by decide)).trans (ma_up_s _ _ _) | exact (ma_up_n (by first | decide | omega)).trans ((ma_up_n (by first | decide | omega)).trans (by assumption))) (by rfl) ?_
    refine ma_iconst dX12_inside_106 ?_
    refine ma_iald dX12_inside_107 (by first | exact ma_up_s _ _ _ | exact (ma_up_n (by decide)).trans (ma_up_s _ _ _) | exact (ma_up_n (by first | decide | omega)).trans ((ma_up_n (by first | decide | omega)).trans (by assumption))) (by omega) (by omega) (by omega) ?_
    refine ma_aload_n dX12_inside_108 rfl ?_
    refine ma_getf dX12_inside_109 fX12_42 (by first | exact ma_up_s _ _ _ | exact (ma_up_n (by decide)).trans (ma_up_s _ _ _) | exact (ma_up_n (by first | decide | omega)).trans ((ma_up_n (by first | decide | omega)).trans (by assumption))) (by rfl) ?_
    refine ma_iconst dX12_inside_112 ?_
    refine ma_iald dX12_inside_113 (by first | exact ma_up_s _ _ _ | exact (ma_up_n (by decide)).trans (ma_up_s _ _ _) | exact (ma_up_n (by first | decide | omega)).trans ((ma_up_n (by first | decide | omega)).trans (by assumption))) (by omega) (by omega) (by omega) ?_
    refine ma_aload_n dX12_inside_114 rfl ?_
    refine ma_getf dX12_inside_115 fX12_42 (by first | exact ma_up_s _ _ _ | exact (ma_up_n (by decide)).trans (ma_up_s _ _ _) | exact (ma_up_n (by first | decide | omega)).trans ((ma_up_n (by first | decide | omega)).trans (by assumption))) (by rfl) ?_
    refine ma_iconst dX12_inside_118 ?_
    refine ma_iald dX12_inside_119 (by first | exact ma_up_s _ _ _ | exact (ma_up_n (by decide)).trans (ma_up_s _ _ _) | exact (ma_up_n (by first | decide | omega)).trans ((ma_up_n (by first | decide | omega)).trans (by assumption))) (by omega) (by omega) (by omega) ?_
    refine ma_cV [_, _, _] dX12_inside_120 wX12_permOf lX12_158 iX12_permOf sX12_permOf rfl (by first | exact ma_up_s _ _ _ | exact (ma_up_n (by decide)).trans (ma_up_s _ _ _) | exact (ma_up_n (by first | decide | omega)).trans ((ma_up_n (by first | decide | omega)).trans (by assumption))) (Nat.le_of_ble_eq_true rfl) ?_
    refine c_X12_permOf ((ma_up_n (by decide)).trans ((ma_up_n (by decide)).trans hM)) ((ma_up_n (by decide)).trans ((ma_up_n (by decide)).trans h77)) hf iq.1 (hV' 0 (by omega) (by omega)) (hV' 1 (by omega) (by omega)) (hV' 2 (by omega) (by omega)) ?_
    refine ma_iadd dX12_inside_123 ?_
    refine ma_cS [_, _, _, _] dX12_inside_124 wX12_put lX12_138 tX12_put (Nat.le_of_ble_eq_true rfl) ?_
    refine c_X12_put (ma_up_s _ _ _) (by constructor <;> omega) w ?_
    rw [ma_up_up]
    exact ma_vret dX12_inside_127 rfl (K1 x1 x2 V')
  · -- none
    refine ma_istoreN dX12_inside_18 (by decide) rfl ?_
    refine ma_iload dX12_inside_20 rfl ?_
    refine ma_iconst dX12_inside_22 ?_
    refine ma_rcmp_ne 27 dX12_inside_23 rfl (by decide) (by decide) (fun c23 => absurd c23 (by decide)) (fun c23 => ?_)
    exact ma_vret dX12_inside_26 rfl (K0 (Classical.byContradiction (fun z => hno (jn c) (im (nu c) y) (cfg_n hcf c0 c1 (fun q => z (Or.inl q))).1.1 (cfg_n hcf c0 c1 (fun q => z (Or.inl q))).1.2 (im_in (cfg_n hcf c0 c1 (fun q => z (Or.inl q))).2.1.1 (cfg_n hcf c0 c1 (fun q => z (Or.inl q))).2.1.2 y0 y1).1 (im_in (cfg_n hcf c0 c1 (fun q => z (Or.inl q))).2.1.1 (cfg_n hcf c0 c1 (fun q => z (Or.inl q))).2.1.2 y0 y1).2 (cm_is hcf y0 y1 hy c0 c1 (fun q => z (Or.inl q)) (fun q => z (Or.inr q))).2 (by rw [hcu c c0 c1 (fun q => z (Or.inl q))]; exact (cm_is hcf y0 y1 hy c0 c1 (fun q => z (Or.inl q)) (fun q => z (Or.inr q))).1))))
