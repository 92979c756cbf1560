set_option maxHeartbeats 2000000 in
theorem c_X12_simpler0 {h : ma_H} {nx d : Nat} {I : Nat → Int} {t t' : Int} {G G' Aa A0 W f : Int → Int} {Q : Option ma_V → ma_H → Nat → Prop} (hM : h 73 = co 12 (mo I)) (hS : SMO h) (h74 : h 74 = ci 33 Aa) (h76 : h 76 = cl 96 f) (h100 : h 100 = ci 33 W) (h107 : h 107 = ci 33 A0) (hG : VG t G) (hC : CN t G) (hA : AG t G Aa) (hsim : SIM 8 t G 0 t' G' 0) (K : ∀ h', Q (some (vi t)) h' nx) : ma_Ct mX12_simpler (d + 9) 0 0 [vr 73] h nx Q := by
  have ht := hG.1
  refine ma_Ct.of (by decide +kernel) (Nat.le_of_ble_eq_true rfl) ?_
  refine ma_aload_n dX12_simpler_0 rfl ?_
  refine ma_iconst dX12_simpler_1 ?_
  refine ma_puti dX12_simpler_2 fX12_128 (by first | exact hM | exact ma_up_s _ _ _ | exact (ma_up_n (by decide)).trans h74 | exact (ma_up_n (by decide)).trans h107 | exact gs.2.1 | exact g74 | exact (ma_up_n (by decide)).trans g74 | exact (ma_up_n (by decide)).trans ((ma_up_n (by decide)).trans ((ma_up_n (by decide)).trans g74))) (Nat.le_of_ble_eq_true rfl) ?_
  rw [mo_5]
  refine ma_aload_n dX12_simpler_5 rfl ?_
  refine ma_getf dX12_simpler_6 fX12_9 (by first | exact hM | exact ma_up_s _ _ _ | exact (ma_up_n (by decide)).trans h74 | exact (ma_up_n (by decide)).trans h107 | exact gs.2.1 | exact g74 | exact (ma_up_n (by decide)).trans g74 | exact (ma_up_n (by decide)).trans ((ma_up_n (by decide)).trans ((ma_up_n (by decide)).trans g74))) (by rfl) ?_
  refine ma_aload_n dX12_simpler_9 rfl ?_
  refine ma_getf dX12_simpler_10 fX12_112 (by first | exact hM | exact ma_up_s _ _ _ | exact (ma_up_n (by decide)).trans h74 | exact (ma_up_n (by decide)).trans h107 | exact gs.2.1 | exact g74 | exact (ma_up_n (by decide)).trans g74 | exact (ma_up_n (by decide)).trans ((ma_up_n (by decide)).trans ((ma_up_n (by decide)).trans g74))) (by rfl) ?_
  refine ma_cS [_, _] dX12_simpler_13 wX12_lay lX12_168 tX12_lay (Nat.le_of_ble_eq_true rfl) ?_
  refine c_X12_lay ((ma_up_n (by decide)).trans h74) ((ma_up_n (by decide)).trans h107) (by decide) ?_
  refine ma_iconst dX12_simpler_16 ?_
  refine ma_istore_nN dX12_simpler_17 (by decide) rfl ?_
  refine l_ms18 (t' := t') (G' := G') (e' := 0) 8 0 _ (iu I 5 0) t G (by decide) ((ma_up_n (by decide)).trans (ma_up_s _ _ _)) (smo_n (by decide) (by decide) (smo_n (by decide) (by decide) hS)) ⟨W, (ma_up_n (by decide)).trans ((ma_up_n (by decide)).trans h100)⟩ ⟨Aa, ma_up_s _ _ _, hA⟩ hG hC hsim (fun h' I' gs => ?_)
  have g74 : h' 74 = ci 33 Aa := (gs.1 74 (by decide)).trans ((ma_up_n (by decide)).trans ((ma_up_n (by decide)).trans h74))
  have g76 : h' 76 = cl 96 f := (gs.1 76 (by decide)).trans ((ma_up_n (by decide)).trans ((ma_up_n (by decide)).trans h76))
  refine ma_iload_n dX12_simpler_40 rfl ?_
  refine ma_rif_le 52 dX12_simpler_41 rfl (by decide) (fun c41 => ?_) (fun c41 => absurd c41 (by decide))
  refine ma_aload_n dX12_simpler_52 rfl ?_
  refine ma_iconst dX12_simpler_53 ?_
  refine ma_puti dX12_simpler_54 fX12_132 (by first | exact hM | exact ma_up_s _ _ _ | exact (ma_up_n (by decide)).trans h74 | exact (ma_up_n (by decide)).trans h107 | exact gs.2.1 | exact g74 | exact (ma_up_n (by decide)).trans g74 | exact (ma_up_n (by decide)).trans ((ma_up_n (by decide)).trans ((ma_up_n (by decide)).trans g74))) (Nat.le_of_ble_eq_true rfl) ?_
  rw [mo_4]
  refine ma_aload_n dX12_simpler_57 rfl ?_
  refine ma_iload_n dX12_simpler_58 rfl ?_
  refine ma_i2l dX12_simpler_59 ?_
  refine ma_cV [_] dX12_simpler_60 wX12_tell lX12_231 iX12_tell sX12_tell rfl (by first | exact hM | exact ma_up_s _ _ _ | exact (ma_up_n (by decide)).trans h74 | exact (ma_up_n (by decide)).trans h107 | exact gs.2.1 | exact g74 | exact (ma_up_n (by decide)).trans g74 | exact (ma_up_n (by decide)).trans ((ma_up_n (by decide)).trans ((ma_up_n (by decide)).trans g74))) (Nat.le_of_ble_eq_true rfl) ?_
  refine c_X12_tell (n := 0) (ma_up_s _ _ _) ((ma_up_n (by decide)).trans g76) (by rw [iu_s]; decide) ?_
  refine ma_aload_n dX12_simpler_63 rfl ?_
  refine ma_getf dX12_simpler_64 fX12_9 (by first | exact hM | exact ma_up_s _ _ _ | exact (ma_up_n (by decide)).trans h74 | exact (ma_up_n (by decide)).trans h107 | exact gs.2.1 | exact g74 | exact (ma_up_n (by decide)).trans g74 | exact (ma_up_n (by decide)).trans ((ma_up_n (by decide)).trans ((ma_up_n (by decide)).trans g74))) (by rfl) ?_
  refine ma_iconst dX12_simpler_67 ?_
  refine ma_iald dX12_simpler_68 (by first | exact hM | exact ma_up_s _ _ _ | exact (ma_up_n (by decide)).trans h74 | exact (ma_up_n (by decide)).trans h107 | exact gs.2.1 | exact g74 | exact (ma_up_n (by decide)).trans g74 | exact (ma_up_n (by decide)).trans ((ma_up_n (by decide)).trans ((ma_up_n (by decide)).trans g74))) (by omega) (by omega) (by omega) ?_
  rw [hA.1]
  exact ma_iret dX12_simpler_69 rfl (K _)
theorem dg_0 {T : Int → Int} {b : Int} : dg T 0 0 b = -1 := by
  unfold dg sg
  rw [if_neg (show ¬ ((0 : Int) ≤ 0 ∧ (0 : Int) < 0) by omega), if_neg (by omega)]
theorem c_X11_solid0 {h : ma_H} {nx d : Nat} {u q0 : Int} {r s : ma_V} {T G : Int → Int} {Q : Option ma_V → ma_H → Nat → Prop} (hx : h 0 = co 11 (xo q0)) (ha : h 33 = co 5 [vi 0, vr 34, r, s]) (hg : h 34 = ci 80 T) (h5 : h 5 = co 8 [vi u, vr 6]) (h6 : h 6 = ci 32 G) (hT : ∀ j, 0 ≤ j → j < 80 → 0 ≤ T j ∧ T j < 256) (K : ∀ h', kp h h' [33] → Q (some (vi (-1))) h' nx) : ma_Ct mX11_solid (d + 4) 0 0 [vr 0] h nx Q := by
  refine ma_Ct.of (by decide +kernel) (Nat.le_of_ble_eq_true rfl) ?_
  refine ma_aload_n dX11_solid_0 rfl ?_
  refine ma_getf dX11_solid_1 fX11_47 (by first | exact hx | exact ha) (by rfl) ?_
  refine ma_aload_n dX11_solid_4 rfl ?_
  refine ma_getf dX11_solid_5 fX11_19 (by first | exact hx | exact ha) (by rfl) ?_
  refine ma_cV [_] dX11_solid_8 wX5_readSolid lX11_105 iX5_readSolid sX5_readSolid rfl (by first | exact hx | exact ha) (Nat.le_of_ble_eq_true rfl) ?_
  refine c_X5_readSolid ha hg h5 h6 (by decide) (by decide) (by decide) (by decide) (by decide) (by decide) hT (fun z => ?_) (fun z => absurd z (by rw [dg_0]; decide)) (fun z => absurd z (by rw [dg_0]; decide))
  refine ma_istore_nN dX11_solid_11 (by decide) rfl ?_
  refine ma_aload_n dX11_solid_12 rfl ?_
  refine ma_getf dX11_solid_13 fX11_47 (by first | exact hx | exact ha) (by rfl) ?_
  refine ma_iconst dX11_solid_16 ?_
  refine ma_cV [_] dX11_solid_17 wX5_cut lX11_101 iX5_cut sX5_cut rfl (by first | exact hx | exact ha) (Nat.le_of_ble_eq_true rfl) ?_
  refine c_X5_cut ha (by decide) (by unfold rg; decide) (fun z => absurd ⟨by decide, by decide⟩ z) (fun z => ?_)
  refine ma_pop dX11_solid_20 rfl ?_
  refine ma_iload_n dX11_solid_21 rfl ?_
  refine ma_rif_ge 27 dX11_solid_22 rfl (by decide) (fun c22 => absurd c22 (by decide)) (fun c22 => ?_)
  refine ma_iload_n dX11_solid_25 rfl ?_
  exact ma_iret dX11_solid_26 rfl (K _ (kp_up (by simp) (kp_rf _ _)))
theorem l_so11 {nx d : Nat} {J : Nat → Int} {Tm : Int → Int} {Q : Option ma_V → ma_H → Nat → Prop} (K : ∀ h : ma_H, h 73 = co 12 (mo J) → h 75 = cb 80 Tm → (∃ V, h 85 = ci 33 V) → ∀ i, ma_J none mX12_solid (d + 3) 0 0 30 [some (vr 73), some (vi i)] [] h nx Q) :
    ∀ (m : Nat) (i : Int) (h : ma_H), (0 ≤ i) → (i ≤ 33) → (33 - i < m) → (h 73 = co 12 (mo J)) → (h 75 = cb 80 Tm) → (∃ V, h 85 = ci 33 V) → ma_J none mX12_solid (d + 3) 0 0 11 [some (vr 73), some (vi i)] [] h nx Q := by
  intro m
  induction m with
  | zero => intro i h i0 i1 hm e73 e75 e85; omega
  | succ m ih =>
    intro i h i0 i1 hm e73 e75 e85
    obtain ⟨V, e85⟩ := e85
    refine ma_iload_n dX12_solid_11 rfl ?_
    refine ma_bipush dX12_solid_12 ?_
    refine ma_rcmp_ge 30 dX12_solid_14 rfl (by constructor <;> omega) (by constructor <;> omega) (fun c14 => ?_) (fun c14 => ?_)
    · -- 30
      exact K h e73 e75 ⟨V, e85⟩ i
    · -- 17
      refine ma_aload_n dX12_solid_17 rfl ?_
      refine ma_getf dX12_solid_18 fX12_45 (by first | exact e73 | exact e85) (by rfl) ?_
      refine ma_iload_n dX12_solid_21 rfl ?_
      refine ma_iconst dX12_solid_22 ?_
      refine ma_iast dX12_solid_23 (by first | exact e73 | exact e85) (by omega) (by omega) (by omega) ?_
      refine ma_iincN dX12_solid_24 rfl (by decide) rfl ?_
      refine ma_goto 11 dX12_solid_27 rfl ?_
      exact ih (i + 1) _ (by omega) (by omega) (by omega) ((ma_up_n (by decide)).trans e73) ((ma_up_n (by decide)).trans e75) ⟨_, ma_up_s _ _ _⟩
theorem o_0 : o1 (fun _ => 0) 0 49 8 (-1) 0 = 0 ∧ o2 (fun _ => 0) 0 49 8 (-1) 0 = 0 ∧ o3 (fun _ => 0) 0 49 8 (-1) 0 = 0 := by decide +kernel
theorem l_so30 {h : ma_H} {nx d : Nat} {J : Nat → Int} {Tm V : Int → Int} {i : Int} {Q : Option ma_V → ma_H → Nat → Prop} (e73 : h 73 = co 12 (mo J)) (e75 : h 75 = cb 80 Tm) (e85 : h 85 = ci 33 V) (e15 : J 15 = 0) (e16 : J 16 = 0) (e17 : J 17 = -1) (K : ∀ h', Q (some (vi (-1))) h' nx) : ma_J none mX12_solid (d + 3) 0 0 30 [some (vr 73), some (vi i)] [] h nx Q := by
  refine ma_aload_n dX12_solid_30 rfl ?_
  refine ma_getf dX12_solid_31 fX12_45 (by first | exact e73 | exact e85 | exact mj_73 _ _ | exact (ma_up_n (by decide)).trans e85 | exact (ma_up_n (by decide)).trans (mj_73 _ _)) (by rfl) ?_
  refine ma_iconst dX12_solid_34 ?_
  refine ma_aload_n dX12_solid_35 rfl ?_
  refine ma_bipush dX12_solid_36 ?_
  refine ma_bipush dX12_solid_38 ?_
  refine ma_cV [_, _] dX12_solid_40 wX12_oneOf lX12_204 iX12_oneOf sX12_oneOf rfl (by first | exact e73 | exact e85 | exact mj_73 _ _ | exact (ma_up_n (by decide)).trans e85 | exact (ma_up_n (by decide)).trans (mj_73 _ _)) (Nat.le_of_ble_eq_true rfl) ?_
  rw [← ma_up_id e73]
  refine c_X12_oneOf (T := fun _ => 0) (n := 0) (x := 0) (w := -1) e75 (fun j a b => by omega) (by decide) e15 e16 (by decide) e17 (by decide) (by decide) (by decide) ?_
  rw [o_0.1, o_0.2.1, o_0.2.2]
  refine ma_iconst dX12_solid_43 ?_
  refine ma_iadd dX12_solid_44 ?_
  refine ma_iast dX12_solid_45 (by first | exact e73 | exact e85 | exact mj_73 _ _ | exact (ma_up_n (by decide)).trans e85 | exact (ma_up_n (by decide)).trans (mj_73 _ _)) (by omega) (by omega) (by omega) ?_
  refine ma_aload_n dX12_solid_46 rfl ?_
  refine ma_cV [] dX12_solid_47 wX12_fine lX12_192 iX12_fine sX12_fine rfl (by first | exact e73 | exact e85 | exact mj_73 _ _ | exact (ma_up_n (by decide)).trans e85 | exact (ma_up_n (by decide)).trans (mj_73 _ _)) (Nat.le_of_ble_eq_true rfl) ?_
  show ma_Ct mX12_fine _ 0 0 [vr 73] (ma_up (ma_up h 73 (co 12 (mo (iu (iu J 16 0) 17 0)))) 85 (ci 33 (uf V 0 (0 + 1)))) nx _
  rw [ma_up_cm h (a := 73) (b := 85) _ _ (by decide)]
  refine c_X12_fine (J := iu (iu J 16 0) 17 0) (w := 0) (iu_s _ _ _) (by decide) (fun z => absurd z (by decide)) (fun z => ?_)
  refine ma_rif_eq 71 dX12_solid_50 rfl (by decide) (fun c50 => ?_) (fun c50 => absurd rfl c50)
  refine ma_aload_n dX12_solid_71 rfl ?_
  refine ma_cV [] dX12_solid_72 wX12_wasRight lX12_218 iX12_wasRight sX12_wasRight rfl (by first | exact mj_73 _ _) (Nat.le_of_ble_eq_true rfl) ?_
  refine c_X12_wasRight (J := iu (iu J 16 0) 17 0) (n := 0) (x := 0) (w := 0) (by decide) e15 rfl (by decide) (iu_s _ _ _) (by decide) (fun z => absurd z (by decide)) (fun w' z => ?_)
  have zw : w' = 0 := by omega
  subst zw
  refine ma_rif_ne 85 dX12_solid_75 rfl (by decide) (fun c75 => absurd rfl c75) (fun c75 => ?_)
  refine ma_iconst dX12_solid_78 ?_
  refine ma_aload_n dX12_solid_79 rfl ?_
  refine ma_getf dX12_solid_80 fX12_189 (by first | exact mj_73 _ _) (by rfl) ?_
  rw [iu_s]
  refine ma_isub dX12_solid_83 ?_
  exact ma_iret dX12_solid_84 rfl (K _)
theorem c_X12_solid0 {h : ma_H} {nx d : Nat} {I : Nat → Int} {Tm A0 : Int → Int} {Q : Option ma_V → ma_H → Nat → Prop} (hM : h 73 = co 12 (mo I)) (h75 : h 75 = cb 80 Tm) (h85 : h 85 = ci 33 A0) (e2 : I 2 = 0) (K : ∀ h', Q (some (vi (-1))) h' nx) : ma_Ct mX12_solid (d + 3) 0 0 [vr 73] h nx Q := by
  refine ma_Ct.of (by decide +kernel) (Nat.le_of_ble_eq_true rfl) ?_
  refine ma_aload_n dX12_solid_0 rfl ?_
  refine ma_iconst dX12_solid_1 ?_
  refine ma_puti dX12_solid_2 fX12_128 (by first | exact hM | exact mj_73 _ _) (Nat.le_of_ble_eq_true rfl) ?_
  rw [mo_5]
  refine ma_aload_n dX12_solid_5 rfl ?_
  refine ma_cV [] dX12_solid_6 wX12_begin lX12_212 iX12_begin sX12_begin rfl (by first | exact hM | exact mj_73 _ _) (Nat.le_of_ble_eq_true rfl) ?_
  refine c_X12_begin ?_
  refine ma_iconst dX12_solid_9 ?_
  refine ma_istore_nN dX12_solid_10 (by decide) rfl ?_
  refine l_so11 (J := iu (iu (iu (iu (iu I 5 0) 15 (iu I 5 0 2)) 16 0) 17 (-1)) 2 0) (Tm := Tm) (fun h' a b c i => ?_) 34 0 _ (by decide) (by decide) (by decide) (mj_73 _ _) ((ma_up_n (by decide)).trans h75) ⟨_, (ma_up_n (by decide)).trans h85⟩
  obtain ⟨V, c⟩ := c
  exact l_so30 a b c e2 rfl rfl K
