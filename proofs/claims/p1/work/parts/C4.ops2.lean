theorem xA_e {t : Int} {E : Int → Int} {x : Int} (h : oE t x) : xA E (16 * t) x = eg E x := by
  have h2 := tr_o h
  have hp := tr_p x
  obtain ⟨a0, a1, a2⟩ := h
  obtain ⟨b0, b1, b2⟩ := h2
  unfold xA
  by_cases e : x / 4 % 4 < x % 4
  · exact if_pos (Or.inl ⟨e, a1⟩)
  · exact if_pos (Or.inr ⟨by omega, b1⟩)
theorem fA_b (E G : Int → Int) (k f x : Int) : fA E G k f x = 0 ∨ fA E G k f x = 1 := by
  unfold fA
  split
  · exact Or.inr rfl
  · exact Or.inl rfl
theorem oe_of {t x u v : Int} (c : 0 ≤ x ∧ x < t ∧ 0 ≤ u ∧ u < 4 ∧ 0 ≤ v ∧ v < 4 ∧ u ≠ v) : oE t (16 * x + 4 * u + v) := by
  refine ⟨by omega, by omega, ?_⟩
  have e1 : (16 * x + 4 * u + v) / 4 % 4 = u := by omega
  have e2 : (16 * x + 4 * u + v) % 4 = v := by omega
  rw [e1, e2]
  exact c.2.2.2.2.2.2
set_option maxHeartbeats 2000000 in
theorem c_X11_degree {h : ma_H} {nx d : Nat} {t s sz : Int} {G T : Int → Int} {Q : Option ma_V → ma_H → Nat → Prop} {E0 X0 D0 F0 P0 Z0 N0 S0 q0 : Int → Int} {ec0 pc0 : Int} (hx : h 0 = co 11 (xo s)) (h1 : h 1 = co 8 [vi t, vr 2]) (h2 : h 2 = ci 32 G) (hG : VG t G) {x u v : Int} (rx : rg x) (ru : rg u) (rv : rg v) (K0 : ¬ (0 ≤ x ∧ x < t ∧ 0 ≤ u ∧ u < 4 ∧ 0 ≤ v ∧ v < 4 ∧ u ≠ v) → Q (some (vi (-1))) (bh (tq h sz T) E0 X0 D0 F0 P0 Z0 N0 S0 q0 ec0 pc0) nx) (K : (0 ≤ x ∧ x < t ∧ 0 ≤ u ∧ u < 4 ∧ 0 ≤ v ∧ v < 4 ∧ u ≠ v) → ∀ E P q fl, BP t G E P → (fl = 1 ∧ E (eg E (16 * x + 4 * u + v)) = E (tr (eg E (16 * x + 4 * u + v)))) ∨ (fl = 0 ∧ E (eg E (16 * x + 4 * u + v)) ≠ E (tr (eg E (16 * x + 4 * u + v)))) → Q (some (vi (dA E (16 * t) (eg E (16 * x + 4 * u + v))))) (br (tq h 2 (uf (uf T 0 (fA E G (16 * t) 0 (eg E (16 * x + 4 * u + v)))) 1 fl)) t G E P q) nx) : ma_Ct mX11_degree (d + 4) 0 0 [vr 0, vi x, vi u, vi v] (bh (tq h sz T) E0 X0 D0 F0 P0 Z0 N0 S0 q0 ec0 pc0) nx Q := by
  have ht := hG.1
  refine ma_Ct.of (by decide +kernel) (Nat.le_of_ble_eq_true rfl) ?_
  refine ma_aload_n dX11_degree_0 rfl ?_
  refine ma_getf dX11_degree_1 fX11_10 (by first | exact bh_44 | exact bh_46 | exact bh_47 | exact bh_48 | exact bh_49 | exact bh_50 | exact bh_51 | exact ((bh_n (by decide)).trans ((tq_n (by decide) (by decide)).trans hx)) | exact ((bh_n (by decide)).trans ((tq_n (by decide) (by decide)).trans h1)) | exact (bh_n (by decide)).trans tq_31) (by rfl) ?_
  refine ma_iload_n dX11_degree_4 rfl ?_
  refine ma_iload_n dX11_degree_5 rfl ?_
  refine ma_iload_n dX11_degree_6 rfl ?_
  refine ma_cV [_, _, _] dX11_degree_7 wX8_hasEdge lX11_166 iX8_hasEdge sX8_hasEdge rfl (by first | exact bh_44 | exact bh_46 | exact bh_47 | exact bh_48 | exact bh_49 | exact bh_50 | exact bh_51 | exact ((bh_n (by decide)).trans ((tq_n (by decide) (by decide)).trans hx)) | exact ((bh_n (by decide)).trans ((tq_n (by decide) (by decide)).trans h1)) | exact (bh_n (by decide)).trans tq_31) (Nat.le_of_ble_eq_true rfl) ?_
  refine c_X8_hasEdge ((bh_n (by decide)).trans ((tq_n (by decide) (by decide)).trans h1)) (by omega) rx ru rv (fun hc => ?_) (fun hc => ?_)
  · -- k1
    refine ma_rif_ne 15 dX11_degree_10 rfl (by decide) (fun c10 => ?_) (fun c10 => absurd c10 (by decide))
    refine ma_aload_n dX11_degree_15 rfl ?_
    refine ma_getf dX11_degree_16 fX11_68 (by first | exact bh_44 | exact bh_46 | exact bh_47 | exact bh_48 | exact bh_49 | exact bh_50 | exact bh_51 | exact ((bh_n (by decide)).trans ((tq_n (by decide) (by decide)).trans hx)) | exact ((bh_n (by decide)).trans ((tq_n (by decide) (by decide)).trans h1)) | exact (bh_n (by decide)).trans tq_31) (by rfl) ?_
    refine ma_aload_n dX11_degree_19 rfl ?_
    refine ma_getf dX11_degree_20 fX11_10 (by first | exact bh_44 | exact bh_46 | exact bh_47 | exact bh_48 | exact bh_49 | exact bh_50 | exact bh_51 | exact ((bh_n (by decide)).trans ((tq_n (by decide) (by decide)).trans hx)) | exact ((bh_n (by decide)).trans ((tq_n (by decide) (by decide)).trans h1)) | exact (bh_n (by decide)).trans tq_31) (by rfl) ?_
    refine ma_cV [_] dX11_degree_23 wX7_read lX11_170 iX7_read sX7_read rfl (by first | exact bh_44 | exact bh_46 | exact bh_47 | exact bh_48 | exact bh_49 | exact bh_50 | exact bh_51 | exact ((bh_n (by decide)).trans ((tq_n (by decide) (by decide)).trans hx)) | exact ((bh_n (by decide)).trans ((tq_n (by decide) (by decide)).trans h1)) | exact (bh_n (by decide)).trans tq_31) (Nat.le_of_ble_eq_true rfl) ?_
    refine c_X7_read ((tq_n (by decide) (by decide)).trans h1) ((tq_n (by decide) (by decide)).trans h2) (by decide) (by decide) hG (fun E P q hB => ?_)
    have ox := oe_of hc
    have ge := (eg_cP hB hG ox).2.1
    have g0 := ge.1
    have g1 := ge.2.1
    clear ge
    refine ma_aload_n dX11_degree_26 rfl ?_
    refine ma_getf dX11_degree_27 fX11_68 (by first | exact bh_44 | exact bh_46 | exact bh_47 | exact bh_48 | exact bh_49 | exact bh_50 | exact bh_51 | exact ((bh_n (by decide)).trans ((tq_n (by decide) (by decide)).trans hx)) | exact ((bh_n (by decide)).trans ((tq_n (by decide) (by decide)).trans h1)) | exact (bh_n (by decide)).trans tq_31) (by rfl) ?_
    refine ma_getf dX11_degree_30 fX11_173 (by first | exact bh_44 | exact bh_46 | exact bh_47 | exact bh_48 | exact bh_49 | exact bh_50 | exact bh_51 | exact ((bh_n (by decide)).trans ((tq_n (by decide) (by decide)).trans hx)) | exact ((bh_n (by decide)).trans ((tq_n (by decide) (by decide)).trans h1)) | exact (bh_n (by decide)).trans tq_31) (by rfl) ?_
    refine ma_bipush dX11_degree_33 ?_
    refine ma_iload_n dX11_degree_35 rfl ?_
    refine ma_imul dX11_degree_36 ?_
    refine ma_iconst dX11_degree_37 ?_
    refine ma_iload_n dX11_degree_38 rfl ?_
    refine ma_imul dX11_degree_39 ?_
    refine ma_iadd dX11_degree_40 ?_
    refine ma_iload_n dX11_degree_41 rfl ?_
    refine ma_iadd dX11_degree_42 ?_
    refine ma_iald dX11_degree_43 (by first | exact bh_44 | exact bh_46 | exact bh_47 | exact bh_48 | exact bh_49 | exact bh_50 | exact bh_51 | exact ((bh_n (by decide)).trans ((tq_n (by decide) (by decide)).trans hx)) | exact ((bh_n (by decide)).trans ((tq_n (by decide) (by decide)).trans h1)) | exact (bh_n (by decide)).trans tq_31) (by omega) (by omega) (by omega) ?_
    rw [xA_e ox]
    refine ma_istoreN dX11_degree_44 (by decide) rfl ?_
    refine ma_aload_n dX11_degree_46 rfl ?_
    refine ma_getf dX11_degree_47 fX11_40 (by first | exact bh_44 | exact bh_46 | exact bh_47 | exact bh_48 | exact bh_49 | exact bh_50 | exact bh_51 | exact ((bh_n (by decide)).trans ((tq_n (by decide) (by decide)).trans hx)) | exact ((bh_n (by decide)).trans ((tq_n (by decide) (by decide)).trans h1)) | exact (bh_n (by decide)).trans tq_31) (by rfl) ?_
    refine ma_cV [] dX11_degree_50 wX9_clear lX11_141 iX9_clear sX9_clear rfl (by first | exact bh_44 | exact bh_46 | exact bh_47 | exact bh_48 | exact bh_49 | exact bh_50 | exact bh_51 | exact ((bh_n (by decide)).trans ((tq_n (by decide) (by decide)).trans hx)) | exact ((bh_n (by decide)).trans ((tq_n (by decide) (by decide)).trans h1)) | exact (bh_n (by decide)).trans tq_31) (Nat.le_of_ble_eq_true rfl) ?_
    refine t_clear ?_
    refine ma_aload_n dX11_degree_53 rfl ?_
    refine ma_getf dX11_degree_54 fX11_40 (by first | exact bh_44 | exact bh_46 | exact bh_47 | exact bh_48 | exact bh_49 | exact bh_50 | exact bh_51 | exact ((bh_n (by decide)).trans ((tq_n (by decide) (by decide)).trans hx)) | exact ((bh_n (by decide)).trans ((tq_n (by decide) (by decide)).trans h1)) | exact (bh_n (by decide)).trans tq_31) (by rfl) ?_
    refine ma_aload_n dX11_degree_57 rfl ?_
    refine ma_getf dX11_degree_58 fX11_68 (by first | exact bh_44 | exact bh_46 | exact bh_47 | exact bh_48 | exact bh_49 | exact bh_50 | exact bh_51 | exact ((bh_n (by decide)).trans ((tq_n (by decide) (by decide)).trans hx)) | exact ((bh_n (by decide)).trans ((tq_n (by decide) (by decide)).trans h1)) | exact (bh_n (by decide)).trans tq_31) (by rfl) ?_
    refine ma_getf dX11_degree_61 fX11_176 (by first | exact bh_44 | exact bh_46 | exact bh_47 | exact bh_48 | exact bh_49 | exact bh_50 | exact bh_51 | exact ((bh_n (by decide)).trans ((tq_n (by decide) (by decide)).trans hx)) | exact ((bh_n (by decide)).trans ((tq_n (by decide) (by decide)).trans h1)) | exact (bh_n (by decide)).trans tq_31) (by rfl) ?_
    refine ma_iload dX11_degree_64 rfl ?_
    refine ma_zald dX11_degree_66 (by first | exact bh_44 | exact bh_46 | exact bh_47 | exact bh_48 | exact bh_49 | exact bh_50 | exact bh_51 | exact ((bh_n (by decide)).trans ((tq_n (by decide) (by decide)).trans hx)) | exact ((bh_n (by decide)).trans ((tq_n (by decide) (by decide)).trans h1)) | exact (bh_n (by decide)).trans tq_31) (by omega) (by omega) (by omega) ?_
    refine ma_cV [_] dX11_degree_67 wX9_addFlag lX11_179 iX9_addFlag sX9_addFlag rfl (by first | exact bh_44 | exact bh_46 | exact bh_47 | exact bh_48 | exact bh_49 | exact bh_50 | exact bh_51 | exact ((bh_n (by decide)).trans ((tq_n (by decide) (by decide)).trans hx)) | exact ((bh_n (by decide)).trans ((tq_n (by decide) (by decide)).trans h1)) | exact (bh_n (by decide)).trans tq_31) (Nat.le_of_ble_eq_true rfl) ?_
    refine t_flag (by decide) (fA_b _ _ _ _ _) ?_
    refine ma_aload_n dX11_degree_70 rfl ?_
    refine ma_getf dX11_degree_71 fX11_40 (by first | exact bh_44 | exact bh_46 | exact bh_47 | exact bh_48 | exact bh_49 | exact bh_50 | exact bh_51 | exact ((bh_n (by decide)).trans ((tq_n (by decide) (by decide)).trans hx)) | exact ((bh_n (by decide)).trans ((tq_n (by decide) (by decide)).trans h1)) | exact (bh_n (by decide)).trans tq_31) (by rfl) ?_
    refine ma_aload_n dX11_degree_74 rfl ?_
    refine ma_getf dX11_degree_75 fX11_68 (by first | exact bh_44 | exact bh_46 | exact bh_47 | exact bh_48 | exact bh_49 | exact bh_50 | exact bh_51 | exact ((bh_n (by decide)).trans ((tq_n (by decide) (by decide)).trans hx)) | exact ((bh_n (by decide)).trans ((tq_n (by decide) (by decide)).trans h1)) | exact (bh_n (by decide)).trans tq_31) (by rfl) ?_
    refine ma_iload dX11_degree_78 rfl ?_
    refine ma_cV [_] dX11_degree_80 wX7_isReversed lX11_183 iX7_isReversed sX7_isReversed rfl (by first | exact bh_44 | exact bh_46 | exact bh_47 | exact bh_48 | exact bh_49 | exact bh_50 | exact bh_51 | exact ((bh_n (by decide)).trans ((tq_n (by decide) (by decide)).trans hx)) | exact ((bh_n (by decide)).trans ((tq_n (by decide) (by decide)).trans h1)) | exact (bh_n (by decide)).trans tq_31) (Nat.le_of_ble_eq_true rfl) ?_
    refine c_X7_isReversed (by omega) (bp_E hB) (fun hr => ?_) (fun hr => ?_)
    · -- k1
      refine ma_cV [_] dX11_degree_83 wX9_addFlag lX11_179 iX9_addFlag sX9_addFlag rfl (by first | exact bh_44 | exact bh_46 | exact bh_47 | exact bh_48 | exact bh_49 | exact bh_50 | exact bh_51 | exact ((bh_n (by decide)).trans ((tq_n (by decide) (by decide)).trans hx)) | exact ((bh_n (by decide)).trans ((tq_n (by decide) (by decide)).trans h1)) | exact (bh_n (by decide)).trans tq_31) (Nat.le_of_ble_eq_true rfl) ?_
      refine t_flag (by decide) (by decide) ?_
      refine ma_aload_n dX11_degree_86 rfl ?_
      refine ma_getf dX11_degree_87 fX11_68 (by first | exact bh_44 | exact bh_46 | exact bh_47 | exact bh_48 | exact bh_49 | exact bh_50 | exact bh_51 | exact ((bh_n (by decide)).trans ((tq_n (by decide) (by decide)).trans hx)) | exact ((bh_n (by decide)).trans ((tq_n (by decide) (by decide)).trans h1)) | exact (bh_n (by decide)).trans tq_31) (by rfl) ?_
      refine ma_getf dX11_degree_90 fX11_186 (by first | exact bh_44 | exact bh_46 | exact bh_47 | exact bh_48 | exact bh_49 | exact bh_50 | exact bh_51 | exact ((bh_n (by decide)).trans ((tq_n (by decide) (by decide)).trans hx)) | exact ((bh_n (by decide)).trans ((tq_n (by decide) (by decide)).trans h1)) | exact (bh_n (by decide)).trans tq_31) (by rfl) ?_
      refine ma_iload dX11_degree_93 rfl ?_
      refine ma_iald dX11_degree_95 (by first | exact bh_44 | exact bh_46 | exact bh_47 | exact bh_48 | exact bh_49 | exact bh_50 | exact bh_51 | exact ((bh_n (by decide)).trans ((tq_n (by decide) (by decide)).trans hx)) | exact ((bh_n (by decide)).trans ((tq_n (by decide) (by decide)).trans h1)) | exact (bh_n (by decide)).trans tq_31) (by omega) (by omega) (by omega) ?_
      exact ma_iret dX11_degree_96 rfl (K hc E P q 1 hB (Or.inl ⟨rfl, hr⟩))
    · -- k0
      refine ma_cV [_] dX11_degree_83 wX9_addFlag lX11_179 iX9_addFlag sX9_addFlag rfl (by first | exact bh_44 | exact bh_46 | exact bh_47 | exact bh_48 | exact bh_49 | exact bh_50 | exact bh_51 | exact ((bh_n (by decide)).trans ((tq_n (by decide) (by decide)).trans hx)) | exact ((bh_n (by decide)).trans ((tq_n (by decide) (by decide)).trans h1)) | exact (bh_n (by decide)).trans tq_31) (Nat.le_of_ble_eq_true rfl) ?_
      refine t_flag (by decide) (by decide) ?_
      refine ma_aload_n dX11_degree_86 rfl ?_
      refine ma_getf dX11_degree_87 fX11_68 (by first | exact bh_44 | exact bh_46 | exact bh_47 | exact bh_48 | exact bh_49 | exact bh_50 | exact bh_51 | exact ((bh_n (by decide)).trans ((tq_n (by decide) (by decide)).trans hx)) | exact ((bh_n (by decide)).trans ((tq_n (by decide) (by decide)).trans h1)) | exact (bh_n (by decide)).trans tq_31) (by rfl) ?_
      refine ma_getf dX11_degree_90 fX11_186 (by first | exact bh_44 | exact bh_46 | exact bh_47 | exact bh_48 | exact bh_49 | exact bh_50 | exact bh_51 | exact ((bh_n (by decide)).trans ((tq_n (by decide) (by decide)).trans hx)) | exact ((bh_n (by decide)).trans ((tq_n (by decide) (by decide)).trans h1)) | exact (bh_n (by decide)).trans tq_31) (by rfl) ?_
      refine ma_iload dX11_degree_93 rfl ?_
      refine ma_iald dX11_degree_95 (by first | exact bh_44 | exact bh_46 | exact bh_47 | exact bh_48 | exact bh_49 | exact bh_50 | exact bh_51 | exact ((bh_n (by decide)).trans ((tq_n (by decide) (by decide)).trans hx)) | exact ((bh_n (by decide)).trans ((tq_n (by decide) (by decide)).trans h1)) | exact (bh_n (by decide)).trans tq_31) (by omega) (by omega) (by omega) ?_
      exact ma_iret dX11_degree_96 rfl (K hc E P q 0 hB (Or.inr ⟨rfl, hr⟩))
  · -- k0
    refine ma_rif_ne 15 dX11_degree_10 rfl (by decide) (fun c10 => absurd c10 (by decide)) (fun c10 => ?_)
    refine ma_iconst dX11_degree_13 ?_
    exact ma_iret dX11_degree_14 rfl (K0 hc)
set_option maxHeartbeats 2000000 in
theorem c_X11_point {h : ma_H} {nx d : Nat} {t s sz : Int} {G T : Int → Int} {Q : Option ma_V → ma_H → Nat → Prop} {E0 X0 D0 F0 P0 Z0 N0 S0 q0 : Int → Int} {ec0 pc0 : Int} (hx : h 0 = co 11 (xo s)) (h1 : h 1 = co 8 [vi t, vr 2]) (h2 : h 2 = ci 32 G) (hG : VG t G) {x v : Int} (rx : rg x) (rv : rg v) (K0 : ¬ (0 ≤ x ∧ x < t ∧ 0 ≤ v ∧ v < 4) → Q (some (vi (-1))) (bh (tq h sz T) E0 X0 D0 F0 P0 Z0 N0 S0 q0 ec0 pc0) nx) (K : (0 ≤ x ∧ x < t ∧ 0 ≤ v ∧ v < 4) → ∀ E P q fl, BP t G E P → (fl = 1 ∧ RD t G E P (P (4 * x + v))) ∨ (fl = 0 ∧ ¬ RD t G E P (P (4 * x + v))) → Q (some (vi (zA P (4 * t) (P (4 * x + v))))) (br (tq h 3 (uf (uf (uf T 0 (nA P E (16 * t) (P (4 * x + v)))) 1 (xi (zA P (4 * t)) (nA P E (16 * t)) (sA P G (16 * t)) (P (4 * x + v)))) 2 fl)) t G E P q) nx) : ma_Ct mX11_point (d + 4) 0 0 [vr 0, vi x, vi v] (bh (tq h sz T) E0 X0 D0 F0 P0 Z0 N0 S0 q0 ec0 pc0) nx Q := by
  have ht := hG.1
  refine ma_Ct.of (by decide +kernel) (Nat.le_of_ble_eq_true rfl) ?_
  refine ma_aload_n dX11_point_0 rfl ?_
  refine ma_getf dX11_point_1 fX11_10 (by first | exact bh_44 | exact bh_46 | exact bh_47 | exact bh_48 | exact bh_49 | exact bh_50 | exact bh_51 | exact ((bh_n (by decide)).trans ((tq_n (by decide) (by decide)).trans hx)) | exact ((bh_n (by decide)).trans ((tq_n (by decide) (by decide)).trans h1)) | exact (bh_n (by decide)).trans tq_31) (by rfl) ?_
  refine ma_iload_n dX11_point_4 rfl ?_
  refine ma_iload_n dX11_point_5 rfl ?_
  refine ma_cV [_, _] dX11_point_6 wX8_hasCorner lX11_127 iX8_hasCorner sX8_hasCorner rfl (by first | exact bh_44 | exact bh_46 | exact bh_47 | exact bh_48 | exact bh_49 | exact bh_50 | exact bh_51 | exact ((bh_n (by decide)).trans ((tq_n (by decide) (by decide)).trans hx)) | exact ((bh_n (by decide)).trans ((tq_n (by decide) (by decide)).trans h1)) | exact (bh_n (by decide)).trans tq_31) (Nat.le_of_ble_eq_true rfl) ?_
  refine c_X8_hasCorner ((bh_n (by decide)).trans ((tq_n (by decide) (by decide)).trans h1)) (by omega) rx rv (fun hc => ?_) (fun hc => ?_)
  · -- k1
    refine ma_rif_ne 14 dX11_point_9 rfl (by decide) (fun c9 => ?_) (fun c9 => absurd c9 (by decide))
    refine ma_aload_n dX11_point_14 rfl ?_
    refine ma_getf dX11_point_15 fX11_68 (by first | exact bh_44 | exact bh_46 | exact bh_47 | exact bh_48 | exact bh_49 | exact bh_50 | exact bh_51 | exact ((bh_n (by decide)).trans ((tq_n (by decide) (by decide)).trans hx)) | exact ((bh_n (by decide)).trans ((tq_n (by decide) (by decide)).trans h1)) | exact (bh_n (by decide)).trans tq_31) (by rfl) ?_
    refine ma_aload_n dX11_point_18 rfl ?_
    refine ma_getf dX11_point_19 fX11_10 (by first | exact bh_44 | exact bh_46 | exact bh_47 | exact bh_48 | exact bh_49 | exact bh_50 | exact bh_51 | exact ((bh_n (by decide)).trans ((tq_n (by decide) (by decide)).trans hx)) | exact ((bh_n (by decide)).trans ((tq_n (by decide) (by decide)).trans h1)) | exact (bh_n (by decide)).trans tq_31) (by rfl) ?_
    refine ma_cV [_] dX11_point_22 wX7_read lX11_170 iX7_read sX7_read rfl (by first | exact bh_44 | exact bh_46 | exact bh_47 | exact bh_48 | exact bh_49 | exact bh_50 | exact bh_51 | exact ((bh_n (by decide)).trans ((tq_n (by decide) (by decide)).trans hx)) | exact ((bh_n (by decide)).trans ((tq_n (by decide) (by decide)).trans h1)) | exact (bh_n (by decide)).trans tq_31) (Nat.le_of_ble_eq_true rfl) ?_
    refine c_X7_read ((tq_n (by decide) (by decide)).trans h1) ((tq_n (by decide) (by decide)).trans h2) (by decide) (by decide) hG (fun E P q hB => ?_)
    have bc := br_b (E := E) (P := P) (G := G) ht
    have g0 := (hB.2.2.1.1 (4 * x + v) ⟨by omega, by omega⟩).1
    have g1 := bp_P hB (4 * x + v) (by omega) (by omega)
    have bx := bc.2 (P (4 * x + v)) (by omega) (by omega)
    have xb : -1000 ≤ xi (zA P (4 * t)) (nA P E (16 * t)) (sA P G (16 * t)) (P (4 * x + v)) ∧ xi (zA P (4 * t)) (nA P E (16 * t)) (sA P G (16 * t)) (P (4 * x + v)) ≤ 1000 := by unfold xi; omega
    refine ma_aload_n dX11_point_25 rfl ?_
    refine ma_getf dX11_point_26 fX11_68 (by first | exact bh_44 | exact bh_46 | exact bh_47 | exact bh_48 | exact bh_49 | exact bh_50 | exact bh_51 | exact ((bh_n (by decide)).trans ((tq_n (by decide) (by decide)).trans hx)) | exact ((bh_n (by decide)).trans ((tq_n (by decide) (by decide)).trans h1)) | exact (bh_n (by decide)).trans tq_31) (by rfl) ?_
    refine ma_getf dX11_point_29 fX11_189 (by first | exact bh_44 | exact bh_46 | exact bh_47 | exact bh_48 | exact bh_49 | exact bh_50 | exact bh_51 | exact ((bh_n (by decide)).trans ((tq_n (by decide) (by decide)).trans hx)) | exact ((bh_n (by decide)).trans ((tq_n (by decide) (by decide)).trans h1)) | exact (bh_n (by decide)).trans tq_31) (by rfl) ?_
    refine ma_iconst dX11_point_32 ?_
    refine ma_iload_n dX11_point_33 rfl ?_
    refine ma_imul dX11_point_34 ?_
    refine ma_iload_n dX11_point_35 rfl ?_
    refine ma_iadd dX11_point_36 ?_
    refine ma_iald dX11_point_37 (by first | exact bh_44 | exact bh_46 | exact bh_47 | exact bh_48 | exact bh_49 | exact bh_50 | exact bh_51 | exact ((bh_n (by decide)).trans ((tq_n (by decide) (by decide)).trans hx)) | exact ((bh_n (by decide)).trans ((tq_n (by decide) (by decide)).trans h1)) | exact (bh_n (by decide)).trans tq_31) (by omega) (by omega) (by omega) ?_
    refine ma_istore_nN dX11_point_38 (by decide) rfl ?_
    refine ma_aload_n dX11_point_39 rfl ?_
    refine ma_getf dX11_point_40 fX11_40 (by first | exact bh_44 | exact bh_46 | exact bh_47 | exact bh_48 | exact bh_49 | exact bh_50 | exact bh_51 | exact ((bh_n (by decide)).trans ((tq_n (by decide) (by decide)).trans hx)) | exact ((bh_n (by decide)).trans ((tq_n (by decide) (by decide)).trans h1)) | exact (bh_n (by decide)).trans tq_31) (by rfl) ?_
    refine ma_cV [] dX11_point_43 wX9_clear lX11_141 iX9_clear sX9_clear rfl (by first | exact bh_44 | exact bh_46 | exact bh_47 | exact bh_48 | exact bh_49 | exact bh_50 | exact bh_51 | exact ((bh_n (by decide)).trans ((tq_n (by decide) (by decide)).trans hx)) | exact ((bh_n (by decide)).trans ((tq_n (by decide) (by decide)).trans h1)) | exact (bh_n (by decide)).trans tq_31) (Nat.le_of_ble_eq_true rfl) ?_
    refine t_clear ?_
    refine ma_aload_n dX11_point_46 rfl ?_
    refine ma_getf dX11_point_47 fX11_40 (by first | exact bh_44 | exact bh_46 | exact bh_47 | exact bh_48 | exact bh_49 | exact bh_50 | exact bh_51 | exact ((bh_n (by decide)).trans ((tq_n (by decide) (by decide)).trans hx)) | exact ((bh_n (by decide)).trans ((tq_n (by decide) (by decide)).trans h1)) | exact (bh_n (by decide)).trans tq_31) (by rfl) ?_
    refine ma_aload_n dX11_point_50 rfl ?_
    refine ma_getf dX11_point_51 fX11_68 (by first | exact bh_44 | exact bh_46 | exact bh_47 | exact bh_48 | exact bh_49 | exact bh_50 | exact bh_51 | exact ((bh_n (by decide)).trans ((tq_n (by decide) (by decide)).trans hx)) | exact ((bh_n (by decide)).trans ((tq_n (by decide) (by decide)).trans h1)) | exact (bh_n (by decide)).trans tq_31) (by rfl) ?_
    refine ma_getf dX11_point_54 fX11_192 (by first | exact bh_44 | exact bh_46 | exact bh_47 | exact bh_48 | exact bh_49 | exact bh_50 | exact bh_51 | exact ((bh_n (by decide)).trans ((tq_n (by decide) (by decide)).trans hx)) | exact ((bh_n (by decide)).trans ((tq_n (by decide) (by decide)).trans h1)) | exact (bh_n (by decide)).trans tq_31) (by rfl) ?_
    refine ma_iload_n dX11_point_57 rfl ?_
    refine ma_iald dX11_point_58 (by first | exact bh_44 | exact bh_46 | exact bh_47 | exact bh_48 | exact bh_49 | exact bh_50 | exact bh_51 | exact ((bh_n (by decide)).trans ((tq_n (by decide) (by decide)).trans hx)) | exact ((bh_n (by decide)).trans ((tq_n (by decide) (by decide)).trans h1)) | exact (bh_n (by decide)).trans tq_31) (by omega) (by omega) (by omega) ?_
    refine ma_i2l dX11_point_59 ?_
    refine ma_cV [_] dX11_point_60 wX9_add lX11_144 iX9_add sX9_add rfl (by first | exact bh_44 | exact bh_46 | exact bh_47 | exact bh_48 | exact bh_49 | exact bh_50 | exact bh_51 | exact ((bh_n (by decide)).trans ((tq_n (by decide) (by decide)).trans hx)) | exact ((bh_n (by decide)).trans ((tq_n (by decide) (by decide)).trans h1)) | exact (bh_n (by decide)).trans tq_31) (Nat.le_of_ble_eq_true rfl) ?_
    refine t_add (by decide) (iw_of (by omega) (by omega)) ?_
    refine ma_aload_n dX11_point_63 rfl ?_
    refine ma_getf dX11_point_64 fX11_40 (by first | exact bh_44 | exact bh_46 | exact bh_47 | exact bh_48 | exact bh_49 | exact bh_50 | exact bh_51 | exact ((bh_n (by decide)).trans ((tq_n (by decide) (by decide)).trans hx)) | exact ((bh_n (by decide)).trans ((tq_n (by decide) (by decide)).trans h1)) | exact (bh_n (by decide)).trans tq_31) (by rfl) ?_
    refine ma_aload_n dX11_point_67 rfl ?_
    refine ma_getf dX11_point_68 fX11_68 (by first | exact bh_44 | exact bh_46 | exact bh_47 | exact bh_48 | exact bh_49 | exact bh_50 | exact bh_51 | exact ((bh_n (by decide)).trans ((tq_n (by decide) (by decide)).trans hx)) | exact ((bh_n (by decide)).trans ((tq_n (by decide) (by decide)).trans h1)) | exact (bh_n (by decide)).trans tq_31) (by rfl) ?_
    refine ma_iload_n dX11_point_71 rfl ?_
    refine ma_cV [_] dX11_point_72 wX7_chi lX11_195 iX7_chi sX7_chi rfl (by first | exact bh_44 | exact bh_46 | exact bh_47 | exact bh_48 | exact bh_49 | exact bh_50 | exact bh_51 | exact ((bh_n (by decide)).trans ((tq_n (by decide) (by decide)).trans hx)) | exact ((bh_n (by decide)).trans ((tq_n (by decide) (by decide)).trans h1)) | exact (bh_n (by decide)).trans tq_31) (Nat.le_of_ble_eq_true rfl) ?_
    refine c_X7_chi (by omega) (by omega) (by omega) ?_
    refine ma_i2l dX11_point_75 ?_
    refine ma_cV [_] dX11_point_76 wX9_add lX11_144 iX9_add sX9_add rfl (by first | exact bh_44 | exact bh_46 | exact bh_47 | exact bh_48 | exact bh_49 | exact bh_50 | exact bh_51 | exact ((bh_n (by decide)).trans ((tq_n (by decide) (by decide)).trans hx)) | exact ((bh_n (by decide)).trans ((tq_n (by decide) (by decide)).trans h1)) | exact (bh_n (by decide)).trans tq_31) (Nat.le_of_ble_eq_true rfl) ?_
    refine t_add (by decide) (iw_of (by omega) (by omega)) ?_
    refine ma_aload_n dX11_point_79 rfl ?_
    refine ma_getf dX11_point_80 fX11_40 (by first | exact bh_44 | exact bh_46 | exact bh_47 | exact bh_48 | exact bh_49 | exact bh_50 | exact bh_51 | exact ((bh_n (by decide)).trans ((tq_n (by decide) (by decide)).trans hx)) | exact ((bh_n (by decide)).trans ((tq_n (by decide) (by decide)).trans h1)) | exact (bh_n (by decide)).trans tq_31) (by rfl) ?_
    refine ma_aload_n dX11_point_83 rfl ?_
    refine ma_getf dX11_point_84 fX11_68 (by first | exact bh_44 | exact bh_46 | exact bh_47 | exact bh_48 | exact bh_49 | exact bh_50 | exact bh_51 | exact ((bh_n (by decide)).trans ((tq_n (by decide) (by decide)).trans hx)) | exact ((bh_n (by decide)).trans ((tq_n (by decide) (by decide)).trans h1)) | exact (bh_n (by decide)).trans tq_31) (by rfl) ?_
    refine ma_iload_n dX11_point_87 rfl ?_
    refine ma_cV [_] dX11_point_88 wX7_isRound lX11_198 iX7_isRound sX7_isRound rfl (by first | exact bh_44 | exact bh_46 | exact bh_47 | exact bh_48 | exact bh_49 | exact bh_50 | exact bh_51 | exact ((bh_n (by decide)).trans ((tq_n (by decide) (by decide)).trans hx)) | exact ((bh_n (by decide)).trans ((tq_n (by decide) (by decide)).trans h1)) | exact (bh_n (by decide)).trans tq_31) (Nat.le_of_ble_eq_true rfl) ?_
    refine c_X7_isRound (by omega) (by omega) (by omega) (by omega) (fun hr1 hr2 => ?_) (fun hr => ?_)
    · -- k1
      refine ma_cV [_] dX11_point_91 wX9_addFlag lX11_179 iX9_addFlag sX9_addFlag rfl (by first | exact bh_44 | exact bh_46 | exact bh_47 | exact bh_48 | exact bh_49 | exact bh_50 | exact bh_51 | exact ((bh_n (by decide)).trans ((tq_n (by decide) (by decide)).trans hx)) | exact ((bh_n (by decide)).trans ((tq_n (by decide) (by decide)).trans h1)) | exact (bh_n (by decide)).trans tq_31) (Nat.le_of_ble_eq_true rfl) ?_
      refine t_flag (by decide) (by decide) ?_
      refine ma_aload_n dX11_point_94 rfl ?_
      refine ma_getf dX11_point_95 fX11_68 (by first | exact bh_44 | exact bh_46 | exact bh_47 | exact bh_48 | exact bh_49 | exact bh_50 | exact bh_51 | exact ((bh_n (by decide)).trans ((tq_n (by decide) (by decide)).trans hx)) | exact ((bh_n (by decide)).trans ((tq_n (by decide) (by decide)).trans h1)) | exact (bh_n (by decide)).trans tq_31) (by rfl) ?_
      refine ma_getf dX11_point_98 fX11_201 (by first | exact bh_44 | exact bh_46 | exact bh_47 | exact bh_48 | exact bh_49 | exact bh_50 | exact bh_51 | exact ((bh_n (by decide)).trans ((tq_n (by decide) (by decide)).trans hx)) | exact ((bh_n (by decide)).trans ((tq_n (by decide) (by decide)).trans h1)) | exact (bh_n (by decide)).trans tq_31) (by rfl) ?_
      refine ma_iload_n dX11_point_101 rfl ?_
      refine ma_iald dX11_point_102 (by first | exact bh_44 | exact bh_46 | exact bh_47 | exact bh_48 | exact bh_49 | exact bh_50 | exact bh_51 | exact ((bh_n (by decide)).trans ((tq_n (by decide) (by decide)).trans hx)) | exact ((bh_n (by decide)).trans ((tq_n (by decide) (by decide)).trans h1)) | exact (bh_n (by decide)).trans tq_31) (by omega) (by omega) (by omega) ?_
      exact ma_iret dX11_point_103 rfl (K hc E P q 1 hB (Or.inl ⟨rfl, hr1, hr2⟩))
    · -- k0
      refine ma_cV [_] dX11_point_91 wX9_addFlag lX11_179 iX9_addFlag sX9_addFlag rfl (by first | exact bh_44 | exact bh_46 | exact bh_47 | exact bh_48 | exact bh_49 | exact bh_50 | exact bh_51 | exact ((bh_n (by decide)).trans ((tq_n (by decide) (by decide)).trans hx)) | exact ((bh_n (by decide)).trans ((tq_n (by decide) (by decide)).trans h1)) | exact (bh_n (by decide)).trans tq_31) (Nat.le_of_ble_eq_true rfl) ?_
      refine t_flag (by decide) (by decide) ?_
      refine ma_aload_n dX11_point_94 rfl ?_
      refine ma_getf dX11_point_95 fX11_68 (by first | exact bh_44 | exact bh_46 | exact bh_47 | exact bh_48 | exact bh_49 | exact bh_50 | exact bh_51 | exact ((bh_n (by decide)).trans ((tq_n (by decide) (by decide)).trans hx)) | exact ((bh_n (by decide)).trans ((tq_n (by decide) (by decide)).trans h1)) | exact (bh_n (by decide)).trans tq_31) (by rfl) ?_
      refine ma_getf dX11_point_98 fX11_201 (by first | exact bh_44 | exact bh_46 | exact bh_47 | exact bh_48 | exact bh_49 | exact bh_50 | exact bh_51 | exact ((bh_n (by decide)).trans ((tq_n (by decide) (by decide)).trans hx)) | exact ((bh_n (by decide)).trans ((tq_n (by decide) (by decide)).trans h1)) | exact (bh_n (by decide)).trans tq_31) (by rfl) ?_
      refine ma_iload_n dX11_point_101 rfl ?_
      refine ma_iald dX11_point_102 (by first | exact bh_44 | exact bh_46 | exact bh_47 | exact bh_48 | exact bh_49 | exact bh_50 | exact bh_51 | exact ((bh_n (by decide)).trans ((tq_n (by decide) (by decide)).trans hx)) | exact ((bh_n (by decide)).trans ((tq_n (by decide) (by decide)).trans h1)) | exact (bh_n (by decide)).trans tq_31) (by omega) (by omega) (by omega) ?_
      exact ma_iret dX11_point_103 rfl (K hc E P q 0 hB (Or.inr ⟨rfl, hr⟩))
  · -- k0
    refine ma_rif_ne 14 dX11_point_9 rfl (by decide) (fun c9 => absurd c9 (by decide)) (fun c9 => ?_)
    refine ma_iconst dX11_point_12 ?_
    exact ma_iret dX11_point_13 rfl (K0 hc)
