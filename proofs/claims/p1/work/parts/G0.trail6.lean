theorem tok_un {T : Int → Int} {n i i' : Int} (i0 : 0 ≤ i) (i0' : 0 ≤ i') (h : TOK T n i) (e : n ≤ ta T n i.toNat) (h' : TOK T n i') (e' : n ≤ ta T n i'.toNat) : i = i' := by
  rcases Int.lt_trichotomy i i' with z | z | z
  · have := (h' i.toNat (by omega)).1; omega
  · exact z
  · have := (h i'.toNat (by omega)).1; omega
theorem tok_fu {T : Int → Int} {n i i' : Int} (i0 : 0 ≤ i) (i0' : 0 ≤ i') (h : TOK T n i) (e : 0 ≤ tf T n (ta T n i.toNat)) (h' : TOK T n i') (e' : 0 ≤ tf T n (ta T n i'.toNat)) : i = i' := by
  rcases Int.lt_trichotomy i i' with z | z | z
  · have := (h' i.toNat (by omega)).2; omega
  · exact z
  · have := (h i'.toNat (by omega)).2; omega
theorem tok_no {T : Int → Int} {n i i' : Int} (i0 : 0 ≤ i) (i0' : 0 ≤ i') (h : TOK T n i) (f : ta T n i.toNat < n) (e : 0 ≤ tf T n (ta T n i.toNat)) (h' : TOK T n i') (e' : n ≤ ta T n i'.toNat) : False := by
  rcases Int.lt_trichotomy i i' with z | z | z
  · have := (h' i.toNat (by omega)).2; omega
  · subst z; omega
  · have := (h i'.toNat (by omega)).1; omega
theorem fol_0 {S : Int → Int} {r : Nat} {t e' t' : Int} {G G' : Int → Int} (hG : VG t G) (hC : CN t G) (h : FOL S r 0 t G e' t' G') (e0 : e' ≤ 0) : t' = t ∧ G' = G := by
  cases r with
  | zero => exact ⟨h.1, h.2.1⟩
  | succ r =>
    rcases h with ⟨-, a, b, -⟩ | ⟨-, t1, G1, st, h⟩
    · exact ⟨a, b⟩
    · have q := stp_ok hG hC st
      have := (fol_ok S r q.1 q.2 h).2.2.1
      omega
theorem tl_n {g : ma_H} {J : Nat → Int} {f : Int → Int} {v w w' : Int} (e : w' = w) : ma_up (ma_up (ma_up (ma_up (ma_up g 73 (co 12 (mo (iu J 4 0)))) 76 (cl 96 (uf f (iu J 4 0 4) v))) 73 (co 12 (mo (iu (iu J 4 0) 4 (iu J 4 0 4 + 1))))) 76 (cl 96 (uf (uf f (iu J 4 0 4) v) (iu (iu J 4 0) 4 (iu J 4 0 4 + 1) 4) w'))) 73 (co 12 (mo (iu (iu (iu J 4 0) 4 (iu J 4 0 4 + 1)) 4 (iu (iu J 4 0) 4 (iu J 4 0 4 + 1) 4 + 1)))) = ma_up (ma_up g 76 (cl 96 (uf (uf f 0 v) 1 w))) 73 (co 12 (mo (iu J 4 2))) := by
  subst e
  funext j
  by_cases a : j = 73
  · subst a; rfl
  · by_cases b : j = 76
    · subst b; rfl
    · simp only [ma_up, if_neg a, if_neg b]
theorem l_mt36 {g : ma_H} {nx d : Nat} {J : Nat → Int} {f Bb : Int → Int} {n e tt : Int} {Q : Option ma_V → ma_H → Nat → Prop} (g73 : g 73 = co 12 (mo J)) (g74 : g 74 = ci 33 Bb) (gB : Bb 0 = tt) (g76 : g 76 = cl 96 f) (e43 : J 43 = n) (ht : 1 ≤ tt ∧ tt ≤ 8) (eb : 0 ≤ e ∧ e ≤ n ∧ n ≤ 40) (K : ∀ fl, (e < n ∧ fl = 1) ∨ (e = n ∧ fl = 0) → Q (some (vi e)) (ma_up (ma_up g 76 (cl 96 (uf (uf f 0 fl) 1 tt))) 73 (co 12 (mo (iu J 4 2)))) nx) : ma_J none mX12_trail (d + 8) 0 0 36 [some (vr 73), some (vi e)] [] g nx Q := by
  refine ma_aload_n dX12_trail_36 rfl ?_
  refine ma_iconst dX12_trail_37 ?_
  refine ma_puti dX12_trail_38 fX12_132 (by first | exact g73 | exact ma_up_s _ _ _ | exact (ma_up_n (by decide)).trans ((ma_up_n (by decide)).trans ((ma_up_n (by decide)).trans g74)) | exact (ma_up_n (by decide)).trans g74) (Nat.le_of_ble_eq_true rfl) ?_
  rw [mo_4]
  refine ma_aload_n dX12_trail_41 rfl ?_
  refine ma_iload_n dX12_trail_42 rfl ?_
  refine ma_aload_n dX12_trail_43 rfl ?_
  refine ma_getf dX12_trail_44 fX12_448 (by first | exact g73 | exact ma_up_s _ _ _ | exact (ma_up_n (by decide)).trans ((ma_up_n (by decide)).trans ((ma_up_n (by decide)).trans g74)) | exact (ma_up_n (by decide)).trans g74) (by rfl) ?_
  rw [iu_n (by decide), e43]
  refine ma_rcmp_ge 54 dX12_trail_47 rfl (by constructor <;> omega) (by constructor <;> omega) (fun c47 => ?_) (fun c47 => ?_)
  · -- 54
    refine ma_lconst (z := 0) dX12_trail_54 rfl ?_
    refine ma_cV [_] dX12_trail_55 wX12_tell lX12_231 iX12_tell sX12_tell rfl (by first | exact g73 | exact ma_up_s _ _ _ | exact (ma_up_n (by decide)).trans ((ma_up_n (by decide)).trans ((ma_up_n (by decide)).trans g74)) | exact (ma_up_n (by decide)).trans g74) (Nat.le_of_ble_eq_true rfl) ?_
    refine c_X12_tell (n := 0) (ma_up_s _ _ _) ((ma_up_n (by decide)).trans g76) (by rw [iu_s]; decide) ?_
    refine ma_aload_n dX12_trail_58 rfl ?_
    refine ma_aload_n dX12_trail_59 rfl ?_
    refine ma_getf dX12_trail_60 fX12_9 (by first | exact g73 | exact ma_up_s _ _ _ | exact (ma_up_n (by decide)).trans ((ma_up_n (by decide)).trans ((ma_up_n (by decide)).trans g74)) | exact (ma_up_n (by decide)).trans g74) (by rfl) ?_
    refine ma_iconst dX12_trail_63 ?_
    refine ma_iald dX12_trail_64 (by first | exact g73 | exact ma_up_s _ _ _ | exact (ma_up_n (by decide)).trans ((ma_up_n (by decide)).trans ((ma_up_n (by decide)).trans g74)) | exact (ma_up_n (by decide)).trans g74) (by omega) (by omega) (by omega) ?_
    rw [gB]
    refine ma_i2l dX12_trail_65 ?_
    refine ma_cV [_] dX12_trail_66 wX12_tell lX12_231 iX12_tell sX12_tell rfl (by first | exact g73 | exact ma_up_s _ _ _ | exact (ma_up_n (by decide)).trans ((ma_up_n (by decide)).trans ((ma_up_n (by decide)).trans g74)) | exact (ma_up_n (by decide)).trans g74) (Nat.le_of_ble_eq_true rfl) ?_
    refine c_X12_tell (n := 0) (ma_up_s _ _ _) ((ma_up_n (by decide)).trans (ma_up_s _ _ _)) (by rw [iu_s, iu_s]; decide) ?_
    refine ma_iload_n dX12_trail_69 rfl ?_
    rw [tl_n (f := f) (v := 0) (w := tt) (iw_of (by omega) (by omega))]
    exact ma_iret dX12_trail_70 rfl (K 0 (Or.inr ⟨by omega, rfl⟩))
  · -- 50
    refine ma_lconst (z := 1) dX12_trail_50 rfl ?_
    refine ma_goto 55 dX12_trail_51 rfl ?_
    refine ma_cV [_] dX12_trail_55 wX12_tell lX12_231 iX12_tell sX12_tell rfl (by first | exact g73 | exact ma_up_s _ _ _ | exact (ma_up_n (by decide)).trans ((ma_up_n (by decide)).trans ((ma_up_n (by decide)).trans g74)) | exact (ma_up_n (by decide)).trans g74) (Nat.le_of_ble_eq_true rfl) ?_
    refine c_X12_tell (n := 0) (ma_up_s _ _ _) ((ma_up_n (by decide)).trans g76) (by rw [iu_s]; decide) ?_
    refine ma_aload_n dX12_trail_58 rfl ?_
    refine ma_aload_n dX12_trail_59 rfl ?_
    refine ma_getf dX12_trail_60 fX12_9 (by first | exact g73 | exact ma_up_s _ _ _ | exact (ma_up_n (by decide)).trans ((ma_up_n (by decide)).trans ((ma_up_n (by decide)).trans g74)) | exact (ma_up_n (by decide)).trans g74) (by rfl) ?_
    refine ma_iconst dX12_trail_63 ?_
    refine ma_iald dX12_trail_64 (by first | exact g73 | exact ma_up_s _ _ _ | exact (ma_up_n (by decide)).trans ((ma_up_n (by decide)).trans ((ma_up_n (by decide)).trans g74)) | exact (ma_up_n (by decide)).trans g74) (by omega) (by omega) (by omega) ?_
    rw [gB]
    refine ma_i2l dX12_trail_65 ?_
    refine ma_cV [_] dX12_trail_66 wX12_tell lX12_231 iX12_tell sX12_tell rfl (by first | exact g73 | exact ma_up_s _ _ _ | exact (ma_up_n (by decide)).trans ((ma_up_n (by decide)).trans ((ma_up_n (by decide)).trans g74)) | exact (ma_up_n (by decide)).trans g74) (Nat.le_of_ble_eq_true rfl) ?_
    refine c_X12_tell (n := 0) (ma_up_s _ _ _) ((ma_up_n (by decide)).trans (ma_up_s _ _ _)) (by rw [iu_s, iu_s]; decide) ?_
    refine ma_iload_n dX12_trail_69 rfl ?_
    rw [tl_n (f := f) (v := 1) (w := tt) (iw_of (by omega) (by omega))]
    exact ma_iret dX12_trail_70 rfl (K 1 (Or.inl ⟨by omega, rfl⟩))
theorem smo_kp {h h' : ma_H} (k : kp h h' [73, 74, 99]) (a : mlen 73 = 0) (b : mlen 74 = 0) (c : mlen 99 = 0) (s : SMO h) : SMO h' := by
  obtain ⟨s1, pf, s2, s3⟩ := s
  have key : ∀ j, 0 < mlen j ∨ j = 77 → j ∉ [73, 74, 99] := fun j hj z => by
    simp only [List.mem_cons, List.not_mem_nil, or_false] at z
    rcases z with rfl | rfl | rfl <;> omega
  exact ⟨fun j hj => by obtain ⟨f, e⟩ := s1 j hj; exact ⟨f, (k j (key j (Or.inl hj))).trans e⟩, pf, (k 77 (key 77 (Or.inr rfl))).trans s2, s3⟩
set_option maxHeartbeats 4000000 in
theorem c_X12_trail {h : ma_H} {nx d : Nat} {I : Nat → Int} {T Tm S Aa f U W A0 G G' : Int → Int} {n t e' t' : Int} {Q : Option ma_V → ma_H → Nat → Prop} (hM : h 73 = co 12 (mo I)) (hS : SMO h) (h74 : h 74 = ci 33 Aa) (h76 : h 76 = cl 96 f) (h99 : h 99 = ci 264 U) (h100 : h 100 = ci 33 W) (h101 : h 101 = ci 320 A0) (e2 : I 2 = n) (w0 : 0 ≤ I 40 ∧ I 40 ≤ 8) (hG : VG t G) (hC : CN t G) (hA : AG t G Aa) (hfol : ∀ i : Int, 0 ≤ i → TOK T n i → n ≤ ta T n i.toNat → FOL (ts T n S i.toNat) i.toNat 0 t G e' t' G') (h75 : h 75 = cb 80 Tm) (hX : TX T Tm n) (hn : 0 ≤ n ∧ n ≤ 80) (KF : ∀ (i : Int) h' J, 0 ≤ i → TOK T n i → ta T n i.toNat < n → 0 ≤ tf T n (ta T n i.toNat) → kp h h' [73, 101] → h' 73 = co 12 (mo J) → J 2 = 0 → KJ (iu I 5 0) J → SMO h' → (∃ A, h' 101 = ci 320 A) → Q (some (vi (-1 - tf T n (ta T n i.toNat)))) h' nx) (K0 : ∀ (i : Int) h' J fl, 0 ≤ i → TOK T n i → n ≤ ta T n i.toNat → e' ≤ 0 → ((e' < i ∧ fl = 1) ∨ (e' = i ∧ fl = 0)) → kp h h' (76 :: 100 :: 101 :: mvl) → h' 73 = co 12 (mo J) → J 2 = 0 → J 4 = 2 → J 5 = 0 → (∀ k, k ≠ 2 → k ≠ 4 → k ≠ 5 → k ≠ 12 → k ≠ 15 → k ≠ 16 → k ≠ 17 → k ≠ 32 → k ≠ 34 → k ≠ 40 → k ≠ 43 → J k = I k) → SMO h' → h' 76 = cl 96 (uf (uf f 0 fl) 1 t') → (∃ A, h' 101 = ci 320 A) → (∃ W, h' 100 = ci 33 W) → J 40 = I 40 → Q (some (vi e')) h' nx) (K1 : ∀ (i : Int) h' J fl B V, 0 ≤ i → TOK T n i → n ≤ ta T n i.toNat → 0 < e' → ((e' < i ∧ fl = 1) ∨ (e' = i ∧ fl = 0)) → kp h h' (74 :: 76 :: 99 :: 100 :: 101 :: mvl) → h' 73 = co 12 (mo J) → J 2 = 0 → J 4 = 2 → J 5 = 0 → (∀ k, k ≠ 2 → k ≠ 4 → k ≠ 5 → k ≠ 12 → k ≠ 15 → k ≠ 16 → k ≠ 17 → k ≠ 32 → k ≠ 34 → k ≠ 40 → k ≠ 43 → J k = I k) → SMO h' → h' 76 = cl 96 (uf (uf f 0 fl) 1 t') → (∃ A, h' 101 = ci 320 A) → (∃ W, h' 100 = ci 33 W) → J 40 = (if I 40 = 8 then 8 else I 40 + 1) → h' 74 = ci 33 B → AG t' G' B → h' 99 = ci 264 V → UN (I 40) U Aa V → Q (some (vi e')) h' nx) : ma_Ct mX12_trail (d + 8) 0 0 [vr 73] h nx Q := by
  have ht := hG.1
  refine ma_Ct.of (by decide +kernel) (Nat.le_of_ble_eq_true rfl) ?_
  refine ma_aload_n dX12_trail_0 rfl ?_
  refine ma_iconst dX12_trail_1 ?_
  refine ma_puti dX12_trail_2 fX12_128 (by first | exact hM | exact mj_73 _ _ | exact m73) (Nat.le_of_ble_eq_true rfl) ?_
  rw [mo_5]
  refine ma_aload_n dX12_trail_5 rfl ?_
  refine ma_cV [] dX12_trail_6 wX12_readTrail lX12_451 iX12_readTrail sX12_readTrail rfl (by first | exact hM | exact mj_73 _ _ | exact m73) (Nat.le_of_ble_eq_true rfl) ?_
  refine c_X12_readTrail h101 h75 hX hn (show iu I 5 0 2 = n from e2) (fun i A J i0 ok t1 t2 j17 j2 kj => ?_) (fun i A J i0 i1 ok t1 hAT e43 j2 kj => ?_)
  · -- k0
    refine ma_rif_ne 19 dX12_trail_9 rfl (by decide) (fun c9 => absurd c9 (by decide)) (fun c9 => ?_)
    refine ma_iconst dX12_trail_12 ?_
    refine ma_aload_n dX12_trail_13 rfl ?_
    refine ma_getf dX12_trail_14 fX12_189 (by first | exact hM | exact mj_73 _ _ | exact m73) (by rfl) ?_
    rw [j17]
    refine ma_isub dX12_trail_17 ?_
    have tb := t2
    exact ma_iret dX12_trail_18 rfl (KF i _ J i0 ok t1 t2 (kp_up (by simp) (kp_up (by simp) (kp_rf _ _))) (mj_73 _ _) j2 kj (smo_n (by decide) (by decide) (smo_n (by decide) (by decide) hS)) ⟨A, (ma_up_n (by decide)).trans (ma_up_s _ _ _)⟩)
  · -- k1
    refine ma_rif_ne 19 dX12_trail_9 rfl (by decide) (fun c9 => ?_) (fun c9 => absurd c9 (by decide))
    refine ma_aload_n dX12_trail_19 rfl ?_
    refine ma_cV [] dX12_trail_20 wX12_goTrail lX12_454 iX12_goTrail sX12_goTrail rfl (by first | exact hM | exact mj_73 _ _ | exact m73) (Nat.le_of_ble_eq_true rfl) ?_
    have ff := fol_cg i.toNat (at_ts (S := S) i0 hAT) (hfol i i0 ok t1)
    have fo := fol_ok _ _ hG hC ff
    have kg : kp h (mj (ma_up h 101 (ci 320 A)) J) (76 :: 100 :: 101 :: mvl) := kp_up (by simp) (kp_up (by simp) (kp_rf _ _))
    refine c_X12_goTrail (n := i) (A := A) ⟨i0, i1⟩ (at_v i0 ok hAT) (mj_73 _ _) (smo_n (by decide) (by decide) (smo_n (by decide) (by decide) hS)) ((ma_up_n (by decide)).trans ((ma_up_n (by decide)).trans h74)) ((ma_up_n (by decide)).trans ((ma_up_n (by decide)).trans h100)) ((ma_up_n (by decide)).trans (ma_up_s _ _ _)) e43 hG hC hA ff (fun h' I' W' k1 m73 k3 k4 k5 k6 => ?_)
    have e43' : I' 43 = i := (k3 43 (by decide) (by decide) (by decide)).trans e43
    have kkT : kp h h' (76 :: 100 :: 101 :: mvl) := kp_tr kg (kp_mo (by simp) k1)
    have e74 : h' 74 = ci 33 Aa := (kkT 74 (by decide)).trans h74
    have e76 : h' 76 = cl 96 f := (k1 76 (by decide)).trans ((ma_up_n (by decide)).trans ((ma_up_n (by decide)).trans h76))
    have e99 : h' 99 = ci 264 U := (kkT 99 (by decide)).trans h99
    have e101 : h' 101 = ci 320 A := (k1 101 (by decide)).trans ((ma_up_n (by decide)).trans (ma_up_s _ _ _))
    have e40 : I' 40 = I 40 := (k3 40 (by decide) (by decide) (by decide)).trans (kj 40 (by decide) (by decide) (by decide) (by decide) (by decide))
    have eb : 0 ≤ e' ∧ e' ≤ i ∧ i ≤ 40 := by omega
    have ij2 : I' 2 = 0 := (k3 2 (by decide) (by decide) (by decide)).trans j2
    have ij5 : I' 5 = 0 := (k3 5 (by decide) (by decide) (by decide)).trans (kj 5 (by decide) (by decide) (by decide) (by decide) (by decide))
    refine ma_istore_nN dX12_trail_23 (by decide) rfl ?_
    refine ma_iload_n dX12_trail_24 rfl ?_
    refine ma_rif_le 36 dX12_trail_25 rfl (by constructor <;> omega) (fun c25 => ?_) (fun c25 => ?_)
    · -- 36
      have z := fol_0 hG hC ff (by omega)
      refine l_mt36 (tt := t') m73 e74 (by rw [hA.1]; exact z.1.symm) e76 e43' fo.1.1 eb (fun fl hfl => K0 i _ _ fl i0 ok t1 (by omega) hfl (kp_up (by simp) (kp_up (by simp) kkT)) (ma_up_s _ _ _) ?_ (iu_s _ _ _) ?_ (fun k a2 a4 a5 a12 a15 a16 a17 a32 a34 a40 a43 => by rw [iu_n a4]; exact (k3 k a12 a32 a34).trans ((kj k a2 a15 a16 a17 a43).trans (iu_n a5))) (smo_n (by decide) (by decide) (smo_n (by decide) (by decide) k4)) ((ma_up_n (by decide)).trans (ma_up_s _ _ _)) ⟨A, (ma_up_n (by decide)).trans ((ma_up_n (by decide)).trans e101)⟩ ⟨W', (ma_up_n (by decide)).trans ((ma_up_n (by decide)).trans k5)⟩ ?_)
      · rw [iu_n (by decide)]; exact ij2
      · rw [iu_n (by decide)]; exact ij5
      · rw [iu_n (by decide)]; exact e40
    · -- 28
      refine ma_aload_n dX12_trail_28 rfl ?_
      refine ma_aload_n dX12_trail_29 rfl ?_
      refine ma_getf dX12_trail_30 fX12_90 (by first | exact m73 | exact k5) (by rfl) ?_
      refine ma_cV [_] dX12_trail_33 wX12_change lX12_224 iX12_change sX12_change rfl (by first | exact m73 | exact k5) (Nat.le_of_ble_eq_true rfl) ?_
      refine c_X12_change m73 e74 e99 k5 (by decide) (by omega) (fun h2 J2 V2 c1 c2 c3 c4 c5 c6 c7 => ?_)
      refine l_mt36 (tt := t') c2 c5 k6.1 ((c1 76 (by decide)).trans e76) ((c4 43 (by decide)).trans e43') fo.1.1 eb (fun fl hfl => K1 i _ _ fl W' V2 i0 ok t1 (by omega) hfl (kp_up (by simp) (kp_up (by simp) (kp_tr (kp_mo (by simp) kkT) (kp_mo (by simp) c1)))) (ma_up_s _ _ _) ?_ (iu_s _ _ _) ?_ (fun k a2 a4 a5 a12 a15 a16 a17 a32 a34 a40 a43 => by rw [iu_n a4]; exact (c4 k a40).trans ((k3 k a12 a32 a34).trans ((kj k a2 a15 a16 a17 a43).trans (iu_n a5)))) (smo_n (by decide) (by decide) (smo_n (by decide) (by decide) (smo_kp c1 (by decide) (by decide) (by decide) k4))) ((ma_up_n (by decide)).trans (ma_up_s _ _ _)) ⟨A, (ma_up_n (by decide)).trans ((ma_up_n (by decide)).trans ((c1 101 (by decide)).trans e101))⟩ ⟨W', (ma_up_n (by decide)).trans ((ma_up_n (by decide)).trans ((c1 100 (by decide)).trans k5))⟩ ?_ ((ma_up_n (by decide)).trans ((ma_up_n (by decide)).trans c5)) k6 ((ma_up_n (by decide)).trans ((ma_up_n (by decide)).trans c6)) (by rw [← e40]; exact c7))
      · rw [iu_n (by decide)]; exact (c4 2 (by decide)).trans ij2
      · rw [iu_n (by decide)]; exact (c4 5 (by decide)).trans ij5
      · rw [iu_n (by decide), c3, e40]
