theorem gm_ed {E P : Int → Int} (hB : BP 1 GM E P) {e : Int} (e0 : 0 ≤ e) (e1 : e < 16) (h : xA E (16 * 1) e = e) : fA E GM (16 * 1) 0 e = 1 := by
  have ue : e / 4 % 4 < e % 4 := by
    rcases Int.lt_trichotomy (e / 4 % 4) (e % 4) with z | z | z
    · exact z
    · exfalso
      unfold xA at h
      rw [if_neg (by omega)] at h
      omega
    · exfalso
      have oe : oE 1 e := ⟨e0, by omega, by omega⟩
      rw [xA_ok oe] at h
      unfold eg at h
      have tx : oE 1 (tr e) := tr_o oe
      rw [gm_E hB oe, gm_E hB tx] at h
      rw [if_pos (tr_lt z)] at h
      have := tr_lt z
      omega
  have oe : oE 1 e := ⟨e0, by omega, by omega⟩
  rw [xA_ok oe] at h
  have f := gm_free (E := E) (P := P) e0 e1 ue
  rw [h] at f
  unfold fA
  rw [if_pos f]
theorem l_np17 {h : ma_H} {nx d : Nat} {v69 : ma_V} {x5 : Option ma_V} {Q : Option ma_V → ma_H → Nat → Prop} (h1 : h 1 = co 8 [vi 1, vr 2]) (h2 : h 2 = ci 32 GM) (K : Q none h nx) :
    ∀ (m : Nat) (i : Int) (x4 : Option ma_V), (0 ≤ i) → (i ≤ 4) → (4 - i < m) → ma_J none mX10_namePairs (d + 1) 0 0 17 [some v69, some (vr 1), some (vi 1), some (vi i), x4, x5] [] h nx Q := by
  intro m
  induction m with
  | zero => intro i x4 i0 i1 hm; omega
  | succ m ih =>
    intro i x4 i0 i1 hm
    refine ma_iload_n dX10_namePairs_17 rfl ?_
    refine ma_iconst dX10_namePairs_18 ?_
    refine ma_aload_n dX10_namePairs_19 rfl ?_
    refine ma_getf dX10_namePairs_20 fX10_56 (by first | exact h1 | exact h69) (by rfl) ?_
    refine ma_imul dX10_namePairs_23 ?_
    refine ma_rcmp_ge 115 dX10_namePairs_24 rfl (by constructor <;> omega) (by constructor <;> omega) (fun c24 => ?_) (fun c24 => ?_)
    · -- 115
      exact ma_vret dX10_namePairs_115 rfl K
    · -- 27
      refine ma_aload_n dX10_namePairs_27 rfl ?_
      refine ma_iload_n dX10_namePairs_28 rfl ?_
      refine ma_cV [_] dX10_namePairs_29 wX8_partner lX10_61 iX8_partner sX8_partner rfl (by first | exact h1 | exact h69) (Nat.le_of_ble_eq_true rfl) ?_
      refine c_X8_partner h1 h2 ⟨i0, by omega⟩ (Or.inl rfl) ?_
      rw [show pt GM i = -1 from if_pos (gm_n _)]
      refine ma_istoreN dX10_namePairs_32 (by decide) rfl ?_
      refine ma_iload dX10_namePairs_34 rfl ?_
      refine ma_iload_n dX10_namePairs_36 rfl ?_
      refine ma_rcmp_gt 43 dX10_namePairs_37 rfl (by constructor <;> omega) (by constructor <;> omega) (fun c37 => by omega) (fun c37 => ?_)
      refine ma_goto 109 dX10_namePairs_40 rfl ?_
      refine ma_iincN dX10_namePairs_109 rfl (by decide) rfl ?_
      refine ma_goto 17 dX10_namePairs_112 rfl ?_
      exact ih (i + 1) _ (by omega) (by omega) (by omega)
theorem c_X10_namePairs0 {h : ma_H} {nx d : Nat} {p r t : Int} {S : Int → Int} {Q : Option ma_V → ma_H → Nat → Prop} (h69 : h 69 = co 10 [vr 70, vr 71, vi p, vi r, vi t, vr 72]) (h70 : h 70 = ci 32 S) (h1 : h 1 = co 8 [vi 1, vr 2]) (h2 : h 2 = ci 32 GM) (K : ∀ h', kp h h' [69, 70] → h' 69 = co 10 [vr 70, vr 71, vi 0, vi r, vi t, vr 72] → Q none h' nx) : ma_Ct mX10_namePairs (d + 1) 0 0 [vr 69, vr 1] h nx Q := by
  refine ma_Ct.of (by decide +kernel) (Nat.le_of_ble_eq_true rfl) ?_
  refine ma_aload_n dX10_namePairs_0 rfl ?_
  refine ma_getf dX10_namePairs_1 fX10_9 (by first | exact h69 | exact (ma_up_n (by decide)).trans h69 | exact h70) (by rfl) ?_
  refine ma_iconst dX10_namePairs_4 ?_
  refine ma_cS [_, _] dX10_namePairs_5 wJ7_fill_53178 lX10_50 tJ7_fill_53178 (Nat.le_of_ble_eq_true rfl) ?_
  refine c_J7_fill_53178 h70 (by decide) ?_
  refine ma_aload_n dX10_namePairs_8 rfl ?_
  refine ma_iconst dX10_namePairs_9 ?_
  refine ma_puti dX10_namePairs_10 fX10_34 (by first | exact h69 | exact (ma_up_n (by decide)).trans h69 | exact h70) (Nat.le_of_ble_eq_true rfl) ?_
  refine ma_iconst dX10_namePairs_13 ?_
  refine ma_istore_nN dX10_namePairs_14 (by decide) rfl ?_
  refine ma_iconst dX10_namePairs_15 ?_
  refine ma_istore_nN dX10_namePairs_16 (by decide) rfl ?_
  exact l_np17 ((ma_up_n (by decide)).trans ((ma_up_n (by decide)).trans h1)) ((ma_up_n (by decide)).trans ((ma_up_n (by decide)).trans h2)) (K _ (kp_up (by simp) (kp_up (by simp) (kp_rf _ _))) (ma_up_s _ _ _)) 5 0 _ (by decide) (by decide) (by decide)
theorem xA_b {E P : Int → Int} (hB : BP 1 GM E P) {x : Int} (x0 : 0 ≤ x) (x1 : x < 128) : -1 ≤ xA E (16 * 1) x ∧ xA E (16 * 1) x ≤ 128 := by
  by_cases z : oE 1 x
  · rw [xA_ok z]
    have tx : oE 1 (tr x) := tr_o z
    unfold eg
    rw [gm_E hB z, gm_E hB tx]
    have a := z.1; have b := z.2.1; have c := tx.1; have e := tx.2.1
    split <;> omega
  · unfold xA
    rw [if_neg (fun y => z ?_)]
    · omega
    · unfold oE
      rcases y with y | y
      · omega
      · unfold tr at y; omega
theorem l_ws15 {h : ma_H} {nx d : Nat} {ec pc : Int} {E P : Int → Int} {Q : Option ma_V → ma_H → Nat → Prop} (hB : BP 1 GM E P) (h1 : h 1 = co 8 [vi 1, vr 2]) (h44 : h 44 = co 7 [vr 45, vr 46, vr 47, vr 48, vr 49, vr 50, vr 51, vr 52, vi ec, vi pc, vr 53]) (h46 : h 46 = ci 128 (xA E (16 * 1))) (h48 : h 48 = cz 128 (fA E GM (16 * 1) 0)) (K : Q none h nx) :
    ∀ (m : Nat) (i : Int), (0 ≤ i) → (i ≤ 16) → (16 - i < m) → ma_J none mX10_writeSums d 0 0 15 [some (vr 69), some (vr 1), some (vr 44), some (vi i)] [] h nx Q := by
  intro m
  induction m with
  | zero => intro i i0 i1 hm; omega
  | succ m ih =>
    intro i i0 i1 hm
    refine ma_iload_n dX10_writeSums_15 rfl ?_
    refine ma_bipush dX10_writeSums_16 ?_
    refine ma_aload_n dX10_writeSums_18 rfl ?_
    refine ma_getf dX10_writeSums_19 fX10_56 (by first | exact h1 | exact h44 | exact h46 | exact h48) (by rfl) ?_
    refine ma_imul dX10_writeSums_22 ?_
    refine ma_rcmp_ge 82 dX10_writeSums_23 rfl (by constructor <;> omega) (by constructor <;> omega) (fun c23 => ?_) (fun c23 => ?_)
    · -- 82
      exact ma_vret dX10_writeSums_82 rfl K
    · -- 26
      refine ma_aload_n dX10_writeSums_26 rfl ?_
      refine ma_getf dX10_writeSums_27 fX10_68 (by first | exact h1 | exact h44 | exact h46 | exact h48) (by rfl) ?_
      refine ma_iload_n dX10_writeSums_30 rfl ?_
      refine ma_iald dX10_writeSums_31 (by first | exact h1 | exact h44 | exact h46 | exact h48) (by omega) (by omega) (by omega) ?_
      have xb := xA_b hB i0 (by omega : i < 128)
      refine ma_iload_n dX10_writeSums_32 rfl ?_
      refine ma_rcmp_ne 76 dX10_writeSums_33 rfl (by constructor <;> omega) (by constructor <;> omega) (fun c33 => ?_) (fun c33 => ?_)
      · -- 76
        refine ma_iincN dX10_writeSums_76 rfl (by decide) rfl ?_
        refine ma_goto 15 dX10_writeSums_79 rfl ?_
        exact ih (i + 1) (by omega) (by omega) (by omega)
      · -- 36
        refine ma_aload_n dX10_writeSums_36 rfl ?_
        refine ma_getf dX10_writeSums_37 fX10_73 (by first | exact h1 | exact h44 | exact h46 | exact h48) (by rfl) ?_
        refine ma_iload_n dX10_writeSums_40 rfl ?_
        refine ma_zald dX10_writeSums_41 (by first | exact h1 | exact h44 | exact h46 | exact h48) (by omega) (by omega) (by omega) ?_
        obtain cc := gm_ed hB i0 (by omega) c33
        rw [cc]
        refine ma_rif_ne 76 dX10_writeSums_42 rfl (by decide) (fun c42 => ?_) (fun c42 => absurd c42 (by decide))
        refine ma_iincN dX10_writeSums_76 rfl (by decide) rfl ?_
        refine ma_goto 15 dX10_writeSums_79 rfl ?_
        exact ih (i + 1) (by omega) (by omega) (by omega)
theorem c_X10_writeSums0 {h : ma_H} {nx d : Nat} {p r t ec pc : Int} {S E P : Int → Int} {Q : Option ma_V → ma_H → Nat → Prop} (hB : BP 1 GM E P) (h69 : h 69 = co 10 [vr 70, vr 71, vi p, vi r, vi t, vr 72]) (h71 : h 71 = cl 432 S) (h1 : h 1 = co 8 [vi 1, vr 2]) (h44 : h 44 = co 7 [vr 45, vr 46, vr 47, vr 48, vr 49, vr 50, vr 51, vr 52, vi ec, vi pc, vr 53]) (h46 : h 46 = ci 128 (xA E (16 * 1))) (h48 : h 48 = cz 128 (fA E GM (16 * 1) 0)) (K : ∀ h', kp h h' [69, 71] → h' 69 = co 10 [vr 70, vr 71, vi p, vi 0, vi t, vr 72] → Q none h' nx) : ma_Ct mX10_writeSums (d + 1) 0 0 [vr 69, vr 1, vr 44] h nx Q := by
  refine ma_Ct.of (by decide +kernel) (Nat.le_of_ble_eq_true rfl) ?_
  refine ma_aload_n dX10_writeSums_0 rfl ?_
  refine ma_getf dX10_writeSums_1 fX10_15 (by first | exact h69 | exact (ma_up_n (by decide)).trans h69 | exact h71) (by rfl) ?_
  refine ma_lconst (z := 0) dX10_writeSums_4 rfl ?_
  refine ma_cS [_, _] dX10_writeSums_5 wJ7_fill_d0a16 lX10_65 tJ7_fill_d0a16 (Nat.le_of_ble_eq_true rfl) ?_
  refine c_J7_fill_d0a16 h71 (by decide) ?_
  refine ma_aload_n dX10_writeSums_8 rfl ?_
  refine ma_iconst dX10_writeSums_9 ?_
  refine ma_puti dX10_writeSums_10 fX10_37 (by first | exact h69 | exact (ma_up_n (by decide)).trans h69 | exact h71) (Nat.le_of_ble_eq_true rfl) ?_
  refine ma_iconst dX10_writeSums_13 ?_
  refine ma_istore_nN dX10_writeSums_14 (by decide) rfl ?_
  exact l_ws15 hB ((ma_up_n (by decide)).trans ((ma_up_n (by decide)).trans h1)) ((ma_up_n (by decide)).trans ((ma_up_n (by decide)).trans h44)) ((ma_up_n (by decide)).trans ((ma_up_n (by decide)).trans h46)) ((ma_up_n (by decide)).trans ((ma_up_n (by decide)).trans h48)) (K _ (kp_up (by simp) (kp_up (by simp) (kp_rf _ _))) (ma_up_s _ _ _)) 17 0 (by decide) (by decide) (by decide)
theorem c_X10_rank0 {h : ma_H} {nx d : Nat} {p r t ec pc : Int} {S0 S E P : Int → Int} {Q : Option ma_V → ma_H → Nat → Prop} (hB : BP 1 GM E P) (h69 : h 69 = co 10 [vr 70, vr 71, vi p, vi r, vi t, vr 72]) (h70 : h 70 = ci 32 S0) (h71 : h 71 = cl 432 S) (h1 : h 1 = co 8 [vi 1, vr 2]) (h2 : h 2 = ci 32 GM) (h44 : h 44 = co 7 [vr 45, vr 46, vr 47, vr 48, vr 49, vr 50, vr 51, vr 52, vi ec, vi pc, vr 53]) (h46 : h 46 = ci 128 (xA E (16 * 1))) (h48 : h 48 = cz 128 (fA E GM (16 * 1) 0)) (K : ∀ h', kp h h' [69, 70, 71] → h' 69 = co 10 [vr 70, vr 71, vi 0, vi 0, vi 0, vr 72] → Q (some (vi 0)) h' nx) : ma_Ct mX10_rank (d + 2) 0 0 [vr 69, vr 1, vr 44] h nx Q := by
  refine ma_Ct.of (by decide +kernel) (Nat.le_of_ble_eq_true rfl) ?_
  refine ma_aload_n dX10_rank_0 rfl ?_
  refine ma_aload_n dX10_rank_1 rfl ?_
  refine ma_cV [_] dX10_rank_2 wX10_namePairs lX10_22 iX10_namePairs sX10_namePairs rfl (by first | exact h69 | exact k69 | exact j69 | exact ma_up_s _ _ _) (Nat.le_of_ble_eq_true rfl) ?_
  refine c_X10_namePairs0 h69 h70 h1 h2 (fun h' k1 k69 => ?_)
  refine ma_aload_n dX10_rank_5 rfl ?_
  refine ma_aload_n dX10_rank_6 rfl ?_
  refine ma_aload_n dX10_rank_7 rfl ?_
  refine ma_cV [_, _] dX10_rank_8 wX10_writeSums lX10_26 iX10_writeSums sX10_writeSums rfl (by first | exact h69 | exact k69 | exact j69 | exact ma_up_s _ _ _) (Nat.le_of_ble_eq_true rfl) ?_
  refine c_X10_writeSums0 hB k69 ((k1 71 (by decide)).trans h71) ((k1 1 (by decide)).trans h1) ((k1 44 (by decide)).trans h44) ((k1 46 (by decide)).trans h46) ((k1 48 (by decide)).trans h48) (fun h2' k2 j69 => ?_)
  refine ma_aload_n dX10_rank_11 rfl ?_
  refine ma_iconst dX10_rank_12 ?_
  refine ma_puti dX10_rank_13 fX10_30 (by first | exact h69 | exact k69 | exact j69 | exact ma_up_s _ _ _) (Nat.le_of_ble_eq_true rfl) ?_
  refine ma_iconst dX10_rank_16 ?_
  refine ma_istore_nN dX10_rank_17 (by decide) rfl ?_
  refine ma_iconst dX10_rank_18 ?_
  refine ma_istoreN dX10_rank_19 (by decide) rfl ?_
  refine ma_iload dX10_rank_21 rfl ?_
  refine ma_aload_n dX10_rank_23 rfl ?_
  refine ma_getf dX10_rank_24 fX10_34 (by first | exact h69 | exact k69 | exact j69 | exact ma_up_s _ _ _) (by rfl) ?_
  refine ma_rcmp_ge 106 dX10_rank_27 rfl (by decide) (by decide) (fun c27 => ?_) (fun c27 => absurd c27 (by decide))
  refine ma_aload_n dX10_rank_106 rfl ?_
  refine ma_getf dX10_rank_107 fX10_34 (by first | exact h69 | exact k69 | exact j69 | exact ma_up_s _ _ _) (by rfl) ?_
  refine ma_iload_n dX10_rank_110 rfl ?_
  refine ma_isub dX10_rank_111 ?_
  exact ma_iret dX10_rank_112 rfl (K _ (kp_up (by simp) (kp_tr (kp_mo (by simp) k1) (kp_mo (by simp) k2))) (ma_up_s _ _ _))
theorem bh_n2 {h : ma_H} {E X D F P Z N S q E0 X0 D0 F0 P0 Z0 N0 S0 q0 : Int → Int} {ec pc ec0 pc0 : Int} {j : Nat} (hj : j ∉ 31 :: 69 :: 70 :: 71 :: scl) : bh h E X D F P Z N S q ec pc j = bh h E0 X0 D0 F0 P0 Z0 N0 S0 q0 ec0 pc0 j := by
  have e : j < 44 ∨ 53 < j := by
    simp at hj
    omega
  rw [bh_n e, bh_n e]
theorem c_X11_group0 {h : ma_H} {nx d : Nat} {p r t sz xs : Int} {S1 S2 : Int → Int} {rr : ma_V} {E0 X0 D0 F0 P0 Z0 N0 S0 q0 : Int → Int} {ec0 pc0 : Int} {Q : Option ma_V → ma_H → Nat → Prop} (hx : h 0 = co 11 (xo xs)) (h1 : h 1 = co 8 [vi 1, vr 2]) (h2 : h 2 = ci 32 GM) (h31 : h 31 = co 9 [vi sz, rr]) (h69 : h 69 = co 10 [vr 70, vr 71, vi p, vi r, vi t, vr 72]) (h70 : h 70 = ci 32 S1) (h71 : h 71 = cl 432 S2) (K : ∀ h', kp (bh h E0 X0 D0 F0 P0 Z0 N0 S0 q0 ec0 pc0) h' (31 :: 69 :: 70 :: 71 :: scl) → Q (some (vi 0)) h' nx) : ma_Ct mX11_group (d + 4) 0 0 [vr 0] (bh h E0 X0 D0 F0 P0 Z0 N0 S0 q0 ec0 pc0) nx Q := by
  refine ma_Ct.of (by decide +kernel) (Nat.le_of_ble_eq_true rfl) ?_
  refine ma_aload_n dX11_group_0 rfl ?_
  refine ma_getf dX11_group_1 fX11_68 (by first | exact ((bh_n (by decide)).trans hx) | exact ((bh_n (by decide)).trans h69) | exact (k1 0 (by decide)).trans ((bh_n (by decide)).trans hx) | exact k69 | exact (ma_up_n (by decide)).trans ((k1 0 (by decide)).trans ((bh_n (by decide)).trans hx)) | exact (ma_up_n (by decide)).trans k69 | exact bh_44 | exact (k1 31 (by decide)).trans ((bh_n (by decide)).trans h31)) (by rfl) ?_
  refine ma_aload_n dX11_group_4 rfl ?_
  refine ma_getf dX11_group_5 fX11_10 (by first | exact ((bh_n (by decide)).trans hx) | exact ((bh_n (by decide)).trans h69) | exact (k1 0 (by decide)).trans ((bh_n (by decide)).trans hx) | exact k69 | exact (ma_up_n (by decide)).trans ((k1 0 (by decide)).trans ((bh_n (by decide)).trans hx)) | exact (ma_up_n (by decide)).trans k69 | exact bh_44 | exact (k1 31 (by decide)).trans ((bh_n (by decide)).trans h31)) (by rfl) ?_
  refine ma_cV [_] dX11_group_8 wX7_read lX11_170 iX7_read sX7_read rfl (by first | exact ((bh_n (by decide)).trans hx) | exact ((bh_n (by decide)).trans h69) | exact (k1 0 (by decide)).trans ((bh_n (by decide)).trans hx) | exact k69 | exact (ma_up_n (by decide)).trans ((k1 0 (by decide)).trans ((bh_n (by decide)).trans hx)) | exact (ma_up_n (by decide)).trans k69 | exact bh_44 | exact (k1 31 (by decide)).trans ((bh_n (by decide)).trans h31)) (Nat.le_of_ble_eq_true rfl) ?_
  refine c_X7_read (E := E0) (X := X0) (D := D0) (F := F0) (P := P0) (Z := Z0) (N := N0) (S := S0) (q := q0) (ec := ec0) (pc := pc0) h1 h2 (by decide) (by decide) gm_vg (fun E P q hB => ?_)
  refine ma_aload_n dX11_group_11 rfl ?_
  refine ma_getf dX11_group_12 fX11_93 (by first | exact ((bh_n (by decide)).trans hx) | exact ((bh_n (by decide)).trans h69) | exact (k1 0 (by decide)).trans ((bh_n (by decide)).trans hx) | exact k69 | exact (ma_up_n (by decide)).trans ((k1 0 (by decide)).trans ((bh_n (by decide)).trans hx)) | exact (ma_up_n (by decide)).trans k69 | exact bh_44 | exact (k1 31 (by decide)).trans ((bh_n (by decide)).trans h31)) (by rfl) ?_
  refine ma_aload_n dX11_group_15 rfl ?_
  refine ma_getf dX11_group_16 fX11_10 (by first | exact ((bh_n (by decide)).trans hx) | exact ((bh_n (by decide)).trans h69) | exact (k1 0 (by decide)).trans ((bh_n (by decide)).trans hx) | exact k69 | exact (ma_up_n (by decide)).trans ((k1 0 (by decide)).trans ((bh_n (by decide)).trans hx)) | exact (ma_up_n (by decide)).trans k69 | exact bh_44 | exact (k1 31 (by decide)).trans ((bh_n (by decide)).trans h31)) (by rfl) ?_
  refine ma_aload_n dX11_group_19 rfl ?_
  refine ma_getf dX11_group_20 fX11_68 (by first | exact ((bh_n (by decide)).trans hx) | exact ((bh_n (by decide)).trans h69) | exact (k1 0 (by decide)).trans ((bh_n (by decide)).trans hx) | exact k69 | exact (ma_up_n (by decide)).trans ((k1 0 (by decide)).trans ((bh_n (by decide)).trans hx)) | exact (ma_up_n (by decide)).trans k69 | exact bh_44 | exact (k1 31 (by decide)).trans ((bh_n (by decide)).trans h31)) (by rfl) ?_
  refine ma_cV [_, _] dX11_group_23 wX10_rank lX11_234 iX10_rank sX10_rank rfl (by first | exact ((bh_n (by decide)).trans hx) | exact ((bh_n (by decide)).trans h69) | exact (k1 0 (by decide)).trans ((bh_n (by decide)).trans hx) | exact k69 | exact (ma_up_n (by decide)).trans ((k1 0 (by decide)).trans ((bh_n (by decide)).trans hx)) | exact (ma_up_n (by decide)).trans k69 | exact bh_44 | exact (k1 31 (by decide)).trans ((bh_n (by decide)).trans h31)) (Nat.le_of_ble_eq_true rfl) ?_
  refine c_X10_rank0 hB ((bh_n (by decide)).trans h69) ((bh_n (by decide)).trans h70) ((bh_n (by decide)).trans h71) ((bh_n (by decide)).trans h1) ((bh_n (by decide)).trans h2) bh_44 bh_46 bh_48 (fun h' k1 k69 => ?_)
  refine ma_istore_nN dX11_group_26 (by decide) rfl ?_
  refine ma_aload_n dX11_group_27 rfl ?_
  refine ma_getf dX11_group_28 fX11_40 (by first | exact ((bh_n (by decide)).trans hx) | exact ((bh_n (by decide)).trans h69) | exact (k1 0 (by decide)).trans ((bh_n (by decide)).trans hx) | exact k69 | exact (ma_up_n (by decide)).trans ((k1 0 (by decide)).trans ((bh_n (by decide)).trans hx)) | exact (ma_up_n (by decide)).trans k69 | exact bh_44 | exact (k1 31 (by decide)).trans ((bh_n (by decide)).trans h31)) (by rfl) ?_
  refine ma_cV [] dX11_group_31 wX9_clear lX11_141 iX9_clear sX9_clear rfl (by first | exact ((bh_n (by decide)).trans hx) | exact ((bh_n (by decide)).trans h69) | exact (k1 0 (by decide)).trans ((bh_n (by decide)).trans hx) | exact k69 | exact (ma_up_n (by decide)).trans ((k1 0 (by decide)).trans ((bh_n (by decide)).trans hx)) | exact (ma_up_n (by decide)).trans k69 | exact bh_44 | exact (k1 31 (by decide)).trans ((bh_n (by decide)).trans h31)) (Nat.le_of_ble_eq_true rfl) ?_
  refine c_X9_clear ((k1 31 (by decide)).trans ((bh_n (by decide)).trans h31)) ?_
  refine ma_iconst dX11_group_34 ?_
  refine ma_istore_nN dX11_group_35 (by decide) rfl ?_
  refine ma_iload_n dX11_group_36 rfl ?_
  refine ma_aload_n dX11_group_37 rfl ?_
  refine ma_getf dX11_group_38 fX11_93 (by first | exact ((bh_n (by decide)).trans hx) | exact ((bh_n (by decide)).trans h69) | exact (k1 0 (by decide)).trans ((bh_n (by decide)).trans hx) | exact k69 | exact (ma_up_n (by decide)).trans ((k1 0 (by decide)).trans ((bh_n (by decide)).trans hx)) | exact (ma_up_n (by decide)).trans k69 | exact bh_44 | exact (k1 31 (by decide)).trans ((bh_n (by decide)).trans h31)) (by rfl) ?_
  refine ma_getf dX11_group_41 fX11_238 (by first | exact ((bh_n (by decide)).trans hx) | exact ((bh_n (by decide)).trans h69) | exact (k1 0 (by decide)).trans ((bh_n (by decide)).trans hx) | exact k69 | exact (ma_up_n (by decide)).trans ((k1 0 (by decide)).trans ((bh_n (by decide)).trans hx)) | exact (ma_up_n (by decide)).trans k69 | exact bh_44 | exact (k1 31 (by decide)).trans ((bh_n (by decide)).trans h31)) (by rfl) ?_
  refine ma_rcmp_ge 69 dX11_group_44 rfl (by decide) (by decide) (fun c44 => ?_) (fun c44 => absurd c44 (by decide))
  refine ma_iload_n dX11_group_69 rfl ?_
  exact ma_iret dX11_group_70 rfl (K _ (kp_up (by simp) (fun j hj => (k1 j (fun z => hj (by simp at z ⊢; omega))).trans (bh_n2 hj))))
