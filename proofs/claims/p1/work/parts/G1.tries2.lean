theorem ag_r {t : Int} {G A : Int → Int} (hG : VG t G) (hA : AG t G A) : ∀ j, 0 ≤ j → j < 33 → rg (A j) := by
  intro j j0 j1
  have ht := hG.1
  unfold rg
  rcases Int.lt_or_eq_of_le j0 with z | z
  · have e := hA.2 (j - 1) (by omega) (by omega)
    rw [show 1 + (j - 1) = j by omega] at e
    have g := vg_in hG (k := j - 1) (by omega) (by omega)
    rw [e]
    unfold cv
    split <;> omega
  · rw [← z, hA.1]; omega
theorem l_mi24 {g : ma_H} {nx d : Nat} {J : Nat → Int} {f Aa Bb : Int → Int} {e tt : Int} {Q : Option ma_V → ma_H → Nat → Prop} (g73 : g 73 = co 12 (mo J)) (g74 : g 74 = ci 33 Aa) (g100 : g 100 = ci 33 Bb) (gB : Bb 0 = tt) (g76 : g 76 = cl 96 f) (rA : ∀ j, 0 ≤ j → j < 33 → rg (Aa j)) (rB : ∀ j, 0 ≤ j → j < 33 → rg (Bb j)) (eb : 0 ≤ e ∧ e ≤ 40) (K : ∀ fl, (fl = 1 ∧ (∀ j, 0 ≤ j → j < 33 → Bb j = Aa j)) ∨ (fl = 0 ∧ ¬ (∀ j, 0 ≤ j → j < 33 → Bb j = Aa j)) → Q (some (vi tt)) (ma_up (ma_up g 76 (cl 96 (uf (uf f 0 e) 1 fl))) 73 (co 12 (mo (iu J 4 2)))) nx) : ma_J none mX12_tries (d + 8) 0 0 24 [some (vr 73), some (vi e)] [] g nx Q := by
  refine ma_aload_n dX12_tries_24 rfl ?_
  refine ma_iconst dX12_tries_25 ?_
  refine ma_puti dX12_tries_26 fX12_132 (by first | exact g73 | exact ma_up_s _ _ _ | exact (ma_up_n (by decide)).trans ((ma_up_n (by decide)).trans ((ma_up_n (by decide)).trans g74)) | exact (ma_up_n (by decide)).trans g74 | exact (ma_up_n (by decide)).trans ((ma_up_n (by decide)).trans ((ma_up_n (by decide)).trans g100)) | exact (ma_up_n (by decide)).trans ((ma_up_n (by decide)).trans ((ma_up_n (by decide)).trans ((ma_up_n (by decide)).trans ((ma_up_n (by decide)).trans g100))))) (Nat.le_of_ble_eq_true rfl) ?_
  rw [mo_4]
  refine ma_aload_n dX12_tries_29 rfl ?_
  refine ma_iload_n dX12_tries_30 rfl ?_
  refine ma_i2l dX12_tries_31 ?_
  rw [iw_of (by omega) (by omega)]
  refine ma_cV [_] dX12_tries_32 wX12_tell lX12_231 iX12_tell sX12_tell rfl (by first | exact g73 | exact ma_up_s _ _ _ | exact (ma_up_n (by decide)).trans ((ma_up_n (by decide)).trans ((ma_up_n (by decide)).trans g74)) | exact (ma_up_n (by decide)).trans g74 | exact (ma_up_n (by decide)).trans ((ma_up_n (by decide)).trans ((ma_up_n (by decide)).trans g100)) | exact (ma_up_n (by decide)).trans ((ma_up_n (by decide)).trans ((ma_up_n (by decide)).trans ((ma_up_n (by decide)).trans ((ma_up_n (by decide)).trans g100))))) (Nat.le_of_ble_eq_true rfl) ?_
  refine c_X12_tell (n := 0) (ma_up_s _ _ _) ((ma_up_n (by decide)).trans g76) (by rw [iu_s]; decide) ?_
  refine ma_aload_n dX12_tries_35 rfl ?_
  refine ma_aload_n dX12_tries_36 rfl ?_
  refine ma_getf dX12_tries_37 fX12_90 (by first | exact g73 | exact ma_up_s _ _ _ | exact (ma_up_n (by decide)).trans ((ma_up_n (by decide)).trans ((ma_up_n (by decide)).trans g74)) | exact (ma_up_n (by decide)).trans g74 | exact (ma_up_n (by decide)).trans ((ma_up_n (by decide)).trans ((ma_up_n (by decide)).trans g100)) | exact (ma_up_n (by decide)).trans ((ma_up_n (by decide)).trans ((ma_up_n (by decide)).trans ((ma_up_n (by decide)).trans ((ma_up_n (by decide)).trans g100))))) (by rfl) ?_
  refine ma_aload_n dX12_tries_40 rfl ?_
  refine ma_getf dX12_tries_41 fX12_9 (by first | exact g73 | exact ma_up_s _ _ _ | exact (ma_up_n (by decide)).trans ((ma_up_n (by decide)).trans ((ma_up_n (by decide)).trans g74)) | exact (ma_up_n (by decide)).trans g74 | exact (ma_up_n (by decide)).trans ((ma_up_n (by decide)).trans ((ma_up_n (by decide)).trans g100)) | exact (ma_up_n (by decide)).trans ((ma_up_n (by decide)).trans ((ma_up_n (by decide)).trans ((ma_up_n (by decide)).trans ((ma_up_n (by decide)).trans g100))))) (by rfl) ?_
  refine ma_cS [_, _] dX12_tries_44 wX12_areAlike lX12_172 tX12_areAlike (Nat.le_of_ble_eq_true rfl) ?_
  refine c_X12_areAlike ((ma_up_n (by decide)).trans ((ma_up_n (by decide)).trans ((ma_up_n (by decide)).trans g100))) ((ma_up_n (by decide)).trans ((ma_up_n (by decide)).trans ((ma_up_n (by decide)).trans g74))) rB rA (fun y => ?_) (fun y => ?_)
  · -- k1
    refine ma_rif_eq 54 dX12_tries_47 rfl (by decide) (fun c47 => absurd c47 (by decide)) (fun c47 => ?_)
    refine ma_lconst (z := 1) dX12_tries_50 rfl ?_
    refine ma_goto 55 dX12_tries_51 rfl ?_
    refine ma_cV [_] dX12_tries_55 wX12_tell lX12_231 iX12_tell sX12_tell rfl (by first | exact g73 | exact ma_up_s _ _ _ | exact (ma_up_n (by decide)).trans ((ma_up_n (by decide)).trans ((ma_up_n (by decide)).trans g74)) | exact (ma_up_n (by decide)).trans g74 | exact (ma_up_n (by decide)).trans ((ma_up_n (by decide)).trans ((ma_up_n (by decide)).trans g100)) | exact (ma_up_n (by decide)).trans ((ma_up_n (by decide)).trans ((ma_up_n (by decide)).trans ((ma_up_n (by decide)).trans ((ma_up_n (by decide)).trans g100))))) (Nat.le_of_ble_eq_true rfl) ?_
    refine c_X12_tell (n := 0) (ma_up_s _ _ _) ((ma_up_n (by decide)).trans (ma_up_s _ _ _)) (by rw [iu_s, iu_s]; decide) ?_
    refine ma_aload_n dX12_tries_58 rfl ?_
    refine ma_getf dX12_tries_59 fX12_90 (by first | exact g73 | exact ma_up_s _ _ _ | exact (ma_up_n (by decide)).trans ((ma_up_n (by decide)).trans ((ma_up_n (by decide)).trans g74)) | exact (ma_up_n (by decide)).trans g74 | exact (ma_up_n (by decide)).trans ((ma_up_n (by decide)).trans ((ma_up_n (by decide)).trans g100)) | exact (ma_up_n (by decide)).trans ((ma_up_n (by decide)).trans ((ma_up_n (by decide)).trans ((ma_up_n (by decide)).trans ((ma_up_n (by decide)).trans g100))))) (by rfl) ?_
    refine ma_iconst dX12_tries_62 ?_
    refine ma_iald dX12_tries_63 (by first | exact g73 | exact ma_up_s _ _ _ | exact (ma_up_n (by decide)).trans ((ma_up_n (by decide)).trans ((ma_up_n (by decide)).trans g74)) | exact (ma_up_n (by decide)).trans g74 | exact (ma_up_n (by decide)).trans ((ma_up_n (by decide)).trans ((ma_up_n (by decide)).trans g100)) | exact (ma_up_n (by decide)).trans ((ma_up_n (by decide)).trans ((ma_up_n (by decide)).trans ((ma_up_n (by decide)).trans ((ma_up_n (by decide)).trans g100))))) (by omega) (by omega) (by omega) ?_
    rw [gB]
    have q : Q (some (vi tt)) _ nx := K 1 (Or.inl ⟨rfl, y⟩)
    rw [← tl_n (v := e) (w := 1) rfl] at q
    exact ma_iret dX12_tries_64 rfl q
  · -- k0
    refine ma_rif_eq 54 dX12_tries_47 rfl (by decide) (fun c47 => ?_) (fun c47 => absurd c47 (by decide))
    refine ma_lconst (z := 0) dX12_tries_54 rfl ?_
    refine ma_cV [_] dX12_tries_55 wX12_tell lX12_231 iX12_tell sX12_tell rfl (by first | exact g73 | exact ma_up_s _ _ _ | exact (ma_up_n (by decide)).trans ((ma_up_n (by decide)).trans ((ma_up_n (by decide)).trans g74)) | exact (ma_up_n (by decide)).trans g74 | exact (ma_up_n (by decide)).trans ((ma_up_n (by decide)).trans ((ma_up_n (by decide)).trans g100)) | exact (ma_up_n (by decide)).trans ((ma_up_n (by decide)).trans ((ma_up_n (by decide)).trans ((ma_up_n (by decide)).trans ((ma_up_n (by decide)).trans g100))))) (Nat.le_of_ble_eq_true rfl) ?_
    refine c_X12_tell (n := 0) (ma_up_s _ _ _) ((ma_up_n (by decide)).trans (ma_up_s _ _ _)) (by rw [iu_s, iu_s]; decide) ?_
    refine ma_aload_n dX12_tries_58 rfl ?_
    refine ma_getf dX12_tries_59 fX12_90 (by first | exact g73 | exact ma_up_s _ _ _ | exact (ma_up_n (by decide)).trans ((ma_up_n (by decide)).trans ((ma_up_n (by decide)).trans g74)) | exact (ma_up_n (by decide)).trans g74 | exact (ma_up_n (by decide)).trans ((ma_up_n (by decide)).trans ((ma_up_n (by decide)).trans g100)) | exact (ma_up_n (by decide)).trans ((ma_up_n (by decide)).trans ((ma_up_n (by decide)).trans ((ma_up_n (by decide)).trans ((ma_up_n (by decide)).trans g100))))) (by rfl) ?_
    refine ma_iconst dX12_tries_62 ?_
    refine ma_iald dX12_tries_63 (by first | exact g73 | exact ma_up_s _ _ _ | exact (ma_up_n (by decide)).trans ((ma_up_n (by decide)).trans ((ma_up_n (by decide)).trans g74)) | exact (ma_up_n (by decide)).trans g74 | exact (ma_up_n (by decide)).trans ((ma_up_n (by decide)).trans ((ma_up_n (by decide)).trans g100)) | exact (ma_up_n (by decide)).trans ((ma_up_n (by decide)).trans ((ma_up_n (by decide)).trans ((ma_up_n (by decide)).trans ((ma_up_n (by decide)).trans g100))))) (by omega) (by omega) (by omega) ?_
    rw [gB]
    have q : Q (some (vi tt)) _ nx := K 0 (Or.inr ⟨rfl, y⟩)
    rw [← tl_n (v := e) (w := 0) rfl] at q
    exact ma_iret dX12_tries_64 rfl q
set_option maxHeartbeats 4000000 in
theorem c_X12_tries {h : ma_H} {nx d : Nat} {I : Nat → Int} {T Tm S Aa f U W A0 G G' : Int → Int} {n t e' t' : Int} {Q : Option ma_V → ma_H → Nat → Prop} (hM : h 73 = co 12 (mo I)) (hS : SMO h) (h74 : h 74 = ci 33 Aa) (h76 : h 76 = cl 96 f) (h99 : h 99 = ci 264 U) (h100 : h 100 = ci 33 W) (h101 : h 101 = ci 320 A0) (e2 : I 2 = n) (w0 : 0 ≤ I 40 ∧ I 40 ≤ 8) (hG : VG t G) (hC : CN t G) (hA : AG t G Aa) (hfol : ∀ i : Int, 0 ≤ i → TOK T n i → n ≤ ta T n i.toNat → FOL (ts T n S i.toNat) i.toNat 0 t G e' t' G') (h75 : h 75 = cb 80 Tm) (hX : TX T Tm n) (hn : 0 ≤ n ∧ n ≤ 80) (KF : ∀ (i : Int) h' J, 0 ≤ i → TOK T n i → ta T n i.toNat < n → 0 ≤ tf T n (ta T n i.toNat) → kp h h' [73, 101] → h' 73 = co 12 (mo J) → J 2 = 0 → KJ (iu I 5 0) J → SMO h' → (∃ A, h' 101 = ci 320 A) → Q (some (vi (-1 - tf T n (ta T n i.toNat)))) h' nx) (K : ∀ (i : Int) h' J fl B, 0 ≤ i → TOK T n i → n ≤ ta T n i.toNat → (fl = 1 ∧ (∀ j, 0 ≤ j → j < 33 → B j = Aa j)) ∨ (fl = 0 ∧ ¬ (∀ j, 0 ≤ j → j < 33 → B j = Aa j)) → kp h h' (76 :: 100 :: 101 :: mvl) → h' 73 = co 12 (mo J) → J 2 = 0 → J 4 = 2 → J 5 = 0 → (∀ k, k ≠ 2 → k ≠ 4 → k ≠ 5 → k ≠ 12 → k ≠ 15 → k ≠ 16 → k ≠ 17 → k ≠ 32 → k ≠ 34 → k ≠ 40 → k ≠ 43 → J k = I k) → SMO h' → h' 76 = cl 96 (uf (uf f 0 e') 1 fl) → (∃ A, h' 101 = ci 320 A) → h' 100 = ci 33 B → AG t' G' B → J 40 = I 40 → Q (some (vi t')) h' nx) : ma_Ct mX12_tries (d + 8) 0 0 [vr 73] h nx Q := by
  have ht := hG.1
  refine ma_Ct.of (by decide +kernel) (Nat.le_of_ble_eq_true rfl) ?_
  refine ma_aload_n dX12_tries_0 rfl ?_
  refine ma_iconst dX12_tries_1 ?_
  refine ma_puti dX12_tries_2 fX12_128 (by first | exact hM | exact mj_73 _ _ | exact m73) (Nat.le_of_ble_eq_true rfl) ?_
  rw [mo_5]
  refine ma_aload_n dX12_tries_5 rfl ?_
  refine ma_cV [] dX12_tries_6 wX12_readTrail lX12_451 iX12_readTrail sX12_readTrail rfl (by first | exact hM | exact mj_73 _ _ | exact m73) (Nat.le_of_ble_eq_true rfl) ?_
  refine c_X12_readTrail h101 h75 hX hn (show iu I 5 0 2 = n from e2) (fun i A J i0 ok t1 t2 j17 j2 kj => ?_) (fun i A J i0 i1 ok t1 hAT e43 j2 kj => ?_)
  · -- k0
    refine ma_rif_ne 19 dX12_tries_9 rfl (by decide) (fun c9 => absurd c9 (by decide)) (fun c9 => ?_)
    refine ma_iconst dX12_tries_12 ?_
    refine ma_aload_n dX12_tries_13 rfl ?_
    refine ma_getf dX12_tries_14 fX12_189 (by first | exact hM | exact mj_73 _ _ | exact m73) (by rfl) ?_
    rw [j17]
    refine ma_isub dX12_tries_17 ?_
    exact ma_iret dX12_tries_18 rfl (KF i _ J i0 ok t1 t2 (kp_up (by simp) (kp_up (by simp) (kp_rf _ _))) (mj_73 _ _) j2 kj (smo_n (by decide) (by decide) (smo_n (by decide) (by decide) hS)) ⟨A, (ma_up_n (by decide)).trans (ma_up_s _ _ _)⟩)
  · -- k1
    refine ma_rif_ne 19 dX12_tries_9 rfl (by decide) (fun c9 => ?_) (fun c9 => absurd c9 (by decide))
    refine ma_aload_n dX12_tries_19 rfl ?_
    refine ma_cV [] dX12_tries_20 wX12_goTrail lX12_454 iX12_goTrail sX12_goTrail rfl (by first | exact hM | exact mj_73 _ _ | exact m73) (Nat.le_of_ble_eq_true rfl) ?_
    have ff := fol_cg i.toNat (at_ts (S := S) i0 hAT) (hfol i i0 ok t1)
    have fo := fol_ok _ _ hG hC ff
    have kg : kp h (mj (ma_up h 101 (ci 320 A)) J) (76 :: 100 :: 101 :: mvl) := kp_up (by simp) (kp_up (by simp) (kp_rf _ _))
    refine c_X12_goTrail (n := i) (A := A) ⟨i0, i1⟩ (at_v i0 ok hAT) (mj_73 _ _) (smo_n (by decide) (by decide) (smo_n (by decide) (by decide) hS)) ((ma_up_n (by decide)).trans ((ma_up_n (by decide)).trans h74)) ((ma_up_n (by decide)).trans ((ma_up_n (by decide)).trans h100)) ((ma_up_n (by decide)).trans (ma_up_s _ _ _)) e43 hG hC hA ff (fun h' I' W' k1 m73 k3 k4 k5 k6 => ?_)
    have e43' : I' 43 = i := (k3 43 (by decide) (by decide) (by decide)).trans e43
    have kkT : kp h h' (76 :: 100 :: 101 :: mvl) := kp_tr kg (kp_mo (by simp) k1)
    have e74 : h' 74 = ci 33 Aa := (kkT 74 (by decide)).trans h74
    have e76 : h' 76 = cl 96 f := (k1 76 (by decide)).trans ((ma_up_n (by decide)).trans ((ma_up_n (by decide)).trans h76))
    have e99 : h' 99 = ci 264 U := (kkT 99 (by decide)).trans h99
    have e101 : h' 101 = ci 320 A := (k1 101 (by decide)).trans ((ma_up_n (by decide)).trans (ma_up_s _ _ _))
    have e40 : I' 40 = I 40 := (k3 40 (by decide) (by decide) (by decide)).trans (kj 40 (by decide) (by decide) (by decide) (by decide) (by decide))
    have eb : 0 ≤ e' ∧ e' ≤ i ∧ i ≤ 40 := by omega
    have ij2 : I' 2 = 0 := (k3 2 (by decide) (by decide) (by decide)).trans j2
    have ij5 : I' 5 = 0 := (k3 5 (by decide) (by decide) (by decide)).trans (kj 5 (by decide) (by decide) (by decide) (by decide) (by decide))
    refine ma_istore_nN dX12_tries_23 (by decide) rfl ?_
    refine l_mi24 (tt := t') m73 e74 k5 k6.1 e76 (ag_r hG hA) (ag_r fo.1 k6) (by omega) (fun fl hfl => K i _ _ fl W' i0 ok t1 hfl (kp_up (by simp) (kp_up (by simp) kkT)) (ma_up_s _ _ _) ?_ (iu_s _ _ _) ?_ (fun k a2 a4 a5 a12 a15 a16 a17 a32 a34 a40 a43 => by rw [iu_n a4]; exact (k3 k a12 a32 a34).trans ((kj k a2 a15 a16 a17 a43).trans (iu_n a5))) (smo_n (by decide) (by decide) (smo_n (by decide) (by decide) k4)) ((ma_up_n (by decide)).trans (ma_up_s _ _ _)) ⟨A, (ma_up_n (by decide)).trans ((ma_up_n (by decide)).trans e101)⟩ ((ma_up_n (by decide)).trans ((ma_up_n (by decide)).trans k5)) k6 ?_)
    · rw [iu_n (by decide)]; exact ij2
    · rw [iu_n (by decide)]; exact ij5
    · rw [iu_n (by decide)]; exact e40
