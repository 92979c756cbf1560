/-- told at 31, 32 -/
def tq (h : ma_H) (s : Int) (T : Int → Int) : ma_H := ma_up (ma_up h 32 (cl 65 T)) 31 (co 9 [vi s, vr 32])
theorem tq_31 {h : ma_H} {s : Int} {T : Int → Int} : tq h s T 31 = co 9 [vi s, vr 32] := rfl
theorem tq_32 {h : ma_H} {s : Int} {T : Int → Int} : tq h s T 32 = cl 65 T := rfl
theorem tq_n {h : ma_H} {s : Int} {T : Int → Int} {k : Nat} (e : k ≠ 31) (f : k ≠ 32) : tq h s T k = h k := by
  unfold tq
  rw [ma_up_n e, ma_up_n f]
theorem tq_of {h : ma_H} {s : Int} {T : Int → Int} (a : h 31 = co 9 [vi s, vr 32]) (b : h 32 = cl 65 T) : h = tq h s T := by
  unfold tq
  rw [ma_up_id b, ma_up_id a]
theorem tq_p {h : ma_H} {s s' : Int} {T : Int → Int} : ma_up (tq h s T) 31 (co 9 [vi s', vr 32]) = tq h s' T := by
  unfold tq
  rw [ma_up_up]
theorem tq_q {h : ma_H} {s s' : Int} {T T' : Int → Int} : ma_up (ma_up (tq h s T) 32 (cl 65 T')) 31 (co 9 [vi s', vr 32]) = tq h s' T' := by
  unfold tq
  rw [up_co (by decide), ma_up_up, up_co (by decide), ma_up_up, up_co (by decide)]
theorem t_clear {h : ma_H} {nx d : Nat} {s : Int} {T : Int → Int} {Q : Option ma_V → ma_H → Nat → Prop} {E0 X0 D0 F0 P0 Z0 N0 S0 q0 : Int → Int} {ec0 pc0 : Int} (K : Q none (bh (tq h 0 T) E0 X0 D0 F0 P0 Z0 N0 S0 q0 ec0 pc0) nx) : ma_Ct mX9_clear d 0 0 [vr 31] (bh (tq h s T) E0 X0 D0 F0 P0 Z0 N0 S0 q0 ec0 pc0) nx Q := by
  refine c_X9_clear ((bh_n (by decide)).trans tq_31) ?_
  rw [bh_up (by decide), tq_p]
  exact K
theorem t_add {h : ma_H} {nx d : Nat} {s v w : Int} {T : Int → Int} {Q : Option ma_V → ma_H → Nat → Prop} {E0 X0 D0 F0 P0 Z0 N0 S0 q0 : Int → Int} {ec0 pc0 : Int} (hs : 0 ≤ s ∧ s < 65) (e : v = w) (K : Q none (bh (tq h (s + 1) (uf T s w)) E0 X0 D0 F0 P0 Z0 N0 S0 q0 ec0 pc0) nx) : ma_Ct mX9_add d 0 0 [vr 31, vl v] (bh (tq h s T) E0 X0 D0 F0 P0 Z0 N0 S0 q0 ec0 pc0) nx Q := by
  subst e
  refine c_X9_add ((bh_n (by decide)).trans tq_31) ((bh_n (by decide)).trans tq_32) (by decide) hs ?_
  rw [bh_up (by decide), bh_up (by decide), tq_q]
  exact K
theorem t_flag {h : ma_H} {nx d : Nat} {s x : Int} {T : Int → Int} {Q : Option ma_V → ma_H → Nat → Prop} {E0 X0 D0 F0 P0 Z0 N0 S0 q0 : Int → Int} {ec0 pc0 : Int} (hs : 0 ≤ s ∧ s < 65) (hx : x = 0 ∨ x = 1) (K : Q none (bh (tq h (s + 1) (uf T s x)) E0 X0 D0 F0 P0 Z0 N0 S0 q0 ec0 pc0) nx) : ma_Ct mX9_addFlag (d + 1) 0 0 [vr 31, vi x] (bh (tq h s T) E0 X0 D0 F0 P0 Z0 N0 S0 q0 ec0 pc0) nx Q := by
  refine c_X9_addFlag ((bh_n (by decide)).trans tq_31) ((bh_n (by decide)).trans tq_32) (by decide) hs hx ?_
  rw [bh_up (by decide), bh_up (by decide), tq_q]
  exact K
set_option maxHeartbeats 2000000 in
theorem c_X11_euler {h : ma_H} {nx d : Nat} {t s sz : Int} {G T : Int → Int} {Q : Option ma_V → ma_H → Nat → Prop} {E0 X0 D0 F0 P0 Z0 N0 S0 q0 : Int → Int} {ec0 pc0 : Int} (hx : h 0 = co 11 (xo s)) (h1 : h 1 = co 8 [vi t, vr 2]) (h2 : h 2 = ci 32 G) (hG : VG t G) (K : ∀ E P q, BP t G E P → Q (some (vi (100 + ct (qP P) (4 * t).toNat - ct (cP E) (16 * t).toNat + (4 * t + ct (fun j => G j < 0) (4 * t).toNat) / 2 - t))) (br (tq h sz T) t G E P q) nx) : ma_Ct mX11_euler (d + 4) 0 0 [vr 0] (bh (tq h sz T) E0 X0 D0 F0 P0 Z0 N0 S0 q0 ec0 pc0) nx Q := by
  have ht := hG.1
  refine ma_Ct.of (by decide +kernel) (Nat.le_of_ble_eq_true rfl) ?_
  refine ma_aload_n dX11_euler_0 rfl ?_
  refine ma_getf dX11_euler_1 fX11_68 (by first | exact bh_44 | exact ((bh_n (by decide)).trans ((tq_n (by decide) (by decide)).trans hx)) | exact ((bh_n (by decide)).trans ((tq_n (by decide) (by decide)).trans h1)) | exact (bh_n (by decide)).trans tq_31) (by rfl) ?_
  refine ma_aload_n dX11_euler_4 rfl ?_
  refine ma_getf dX11_euler_5 fX11_10 (by first | exact bh_44 | exact ((bh_n (by decide)).trans ((tq_n (by decide) (by decide)).trans hx)) | exact ((bh_n (by decide)).trans ((tq_n (by decide) (by decide)).trans h1)) | exact (bh_n (by decide)).trans tq_31) (by rfl) ?_
  refine ma_cV [_] dX11_euler_8 wX7_read lX11_170 iX7_read sX7_read rfl (by first | exact bh_44 | exact ((bh_n (by decide)).trans ((tq_n (by decide) (by decide)).trans hx)) | exact ((bh_n (by decide)).trans ((tq_n (by decide) (by decide)).trans h1)) | exact (bh_n (by decide)).trans tq_31) (Nat.le_of_ble_eq_true rfl) ?_
  refine c_X7_read ((tq_n (by decide) (by decide)).trans h1) ((tq_n (by decide) (by decide)).trans h2) (by decide) (by decide) hG (fun E P q hB => ?_)
  have bc := br_b (E := E) (P := P) (G := G) ht
  have b1 := ct_in (fun j => G j < 0) (4 * t).toNat
  have b2 := ct_in (fun i => 0 < dA E (16 * t) i ∧ E i = E (tr i)) 128
  have b3 := ct_in (fun i => 0 < zA P (4 * t) i ∧ sA P G (16 * t) i = 0 ∧ xi (zA P (4 * t)) (nA P E (16 * t)) (sA P G (16 * t)) i = 2) 32
  have b4 := ct_in (qP P) (4 * t).toNat
  have b5 := ct_in (cP E) (16 * t).toNat
  have b6 := lf_b32 bc.2 32 (by decide)
  have b7 := lf_b (c := dA E (16 * t)) (f := dA E (16 * t)) (b := 1073741824) (fun i i0 i1 => by have := bc.1 i i0 i1; omega) (by decide) 128 (by decide)
  have b8 := gf_b bc.1 128 (by decide)
  have b9 := ct_in (fun i => dA E (16 * t) i = lf (dA E (16 * t)) (dA E (16 * t)) 1073741824 128) 128
  have b10 := ct_in (fun i => dA E (16 * t) i = gf (dA E (16 * t)) 128) 128
  refine ma_iconst dX11_euler_11 ?_
  refine ma_aload_n dX11_euler_12 rfl ?_
  refine ma_getf dX11_euler_13 fX11_10 (by first | exact bh_44 | exact ((bh_n (by decide)).trans ((tq_n (by decide) (by decide)).trans hx)) | exact ((bh_n (by decide)).trans ((tq_n (by decide) (by decide)).trans h1)) | exact (bh_n (by decide)).trans tq_31) (by rfl) ?_
  refine ma_getf dX11_euler_16 fX11_123 (by first | exact bh_44 | exact ((bh_n (by decide)).trans ((tq_n (by decide) (by decide)).trans hx)) | exact ((bh_n (by decide)).trans ((tq_n (by decide) (by decide)).trans h1)) | exact (bh_n (by decide)).trans tq_31) (by rfl) ?_
  refine ma_imul dX11_euler_19 ?_
  refine ma_aload_n dX11_euler_20 rfl ?_
  refine ma_getf dX11_euler_21 fX11_10 (by first | exact bh_44 | exact ((bh_n (by decide)).trans ((tq_n (by decide) (by decide)).trans hx)) | exact ((bh_n (by decide)).trans ((tq_n (by decide) (by decide)).trans h1)) | exact (bh_n (by decide)).trans tq_31) (by rfl) ?_
  refine ma_cV [] dX11_euler_24 wX8_freeFaces lX11_162 iX8_freeFaces sX8_freeFaces rfl (by first | exact bh_44 | exact ((bh_n (by decide)).trans ((tq_n (by decide) (by decide)).trans hx)) | exact ((bh_n (by decide)).trans ((tq_n (by decide) (by decide)).trans h1)) | exact (bh_n (by decide)).trans tq_31) (Nat.le_of_ble_eq_true rfl) ?_
  refine c_X8_freeFaces ((bh_n (by decide)).trans ((tq_n (by decide) (by decide)).trans h1)) ((bh_n (by decide)).trans ((tq_n (by decide) (by decide)).trans h2)) (by omega) (fun j j0 j1 => by have := vg_in hG j0 j1; unfold rg; omega) ?_
  rw [nc_ct]
  refine ma_iadd dX11_euler_27 ?_
  refine ma_iconst dX11_euler_28 ?_
  refine ma_kdiv dX11_euler_29 (by constructor <;> omega) (by constructor <;> omega) ?_
  refine ma_istore_nN dX11_euler_30 (by decide) rfl ?_
  refine ma_bipush dX11_euler_31 ?_
  refine ma_aload_n dX11_euler_33 rfl ?_
  refine ma_getf dX11_euler_34 fX11_68 (by first | exact bh_44 | exact ((bh_n (by decide)).trans ((tq_n (by decide) (by decide)).trans hx)) | exact ((bh_n (by decide)).trans ((tq_n (by decide) (by decide)).trans h1)) | exact (bh_n (by decide)).trans tq_31) (by rfl) ?_
  refine ma_getf dX11_euler_37 fX11_224 (by first | exact bh_44 | exact ((bh_n (by decide)).trans ((tq_n (by decide) (by decide)).trans hx)) | exact ((bh_n (by decide)).trans ((tq_n (by decide) (by decide)).trans h1)) | exact (bh_n (by decide)).trans tq_31) (by rfl) ?_
  refine ma_iadd dX11_euler_40 ?_
  refine ma_aload_n dX11_euler_41 rfl ?_
  refine ma_getf dX11_euler_42 fX11_68 (by first | exact bh_44 | exact ((bh_n (by decide)).trans ((tq_n (by decide) (by decide)).trans hx)) | exact ((bh_n (by decide)).trans ((tq_n (by decide) (by decide)).trans h1)) | exact (bh_n (by decide)).trans tq_31) (by rfl) ?_
  refine ma_getf dX11_euler_45 fX11_215 (by first | exact bh_44 | exact ((bh_n (by decide)).trans ((tq_n (by decide) (by decide)).trans hx)) | exact ((bh_n (by decide)).trans ((tq_n (by decide) (by decide)).trans h1)) | exact (bh_n (by decide)).trans tq_31) (by rfl) ?_
  refine ma_isub dX11_euler_48 ?_
  refine ma_iload_n dX11_euler_49 rfl ?_
  refine ma_iadd dX11_euler_50 ?_
  refine ma_aload_n dX11_euler_51 rfl ?_
  refine ma_getf dX11_euler_52 fX11_10 (by first | exact bh_44 | exact ((bh_n (by decide)).trans ((tq_n (by decide) (by decide)).trans hx)) | exact ((bh_n (by decide)).trans ((tq_n (by decide) (by decide)).trans h1)) | exact (bh_n (by decide)).trans tq_31) (by rfl) ?_
  refine ma_getf dX11_euler_55 fX11_123 (by first | exact bh_44 | exact ((bh_n (by decide)).trans ((tq_n (by decide) (by decide)).trans hx)) | exact ((bh_n (by decide)).trans ((tq_n (by decide) (by decide)).trans h1)) | exact (bh_n (by decide)).trans tq_31) (by rfl) ?_
  refine ma_isub dX11_euler_58 ?_
  refine ma_iret dX11_euler_59 rfl ?_
  exact K E P q hB
set_option maxHeartbeats 2000000 in
theorem c_X11_points {h : ma_H} {nx d : Nat} {t s sz : Int} {G T : Int → Int} {Q : Option ma_V → ma_H → Nat → Prop} {E0 X0 D0 F0 P0 Z0 N0 S0 q0 : Int → Int} {ec0 pc0 : Int} (hx : h 0 = co 11 (xo s)) (h1 : h 1 = co 8 [vi t, vr 2]) (h2 : h 2 = ci 32 G) (hG : VG t G) (K : ∀ E P q, BP t G E P → Q (some (vi (ct (qP P) (4 * t).toNat))) (br (tq h 2 (uf (uf T 0 (ct (fun i => 0 < zA P (4 * t) i ∧ sA P G (16 * t) i = 0 ∧ xi (zA P (4 * t)) (nA P E (16 * t)) (sA P G (16 * t)) i = 2) 32)) 1 (lf (zA P (4 * t)) (xi (zA P (4 * t)) (nA P E (16 * t)) (sA P G (16 * t))) 1073741824 32))) t G E P q) nx) : ma_Ct mX11_points (d + 4) 0 0 [vr 0] (bh (tq h sz T) E0 X0 D0 F0 P0 Z0 N0 S0 q0 ec0 pc0) nx Q := by
  have ht := hG.1
  refine ma_Ct.of (by decide +kernel) (Nat.le_of_ble_eq_true rfl) ?_
  refine ma_aload_n dX11_points_0 rfl ?_
  refine ma_getf dX11_points_1 fX11_68 (by first | exact bh_44 | exact ((bh_n (by decide)).trans ((tq_n (by decide) (by decide)).trans hx)) | exact ((bh_n (by decide)).trans ((tq_n (by decide) (by decide)).trans h1)) | exact (bh_n (by decide)).trans tq_31) (by rfl) ?_
  refine ma_aload_n dX11_points_4 rfl ?_
  refine ma_getf dX11_points_5 fX11_10 (by first | exact bh_44 | exact ((bh_n (by decide)).trans ((tq_n (by decide) (by decide)).trans hx)) | exact ((bh_n (by decide)).trans ((tq_n (by decide) (by decide)).trans h1)) | exact (bh_n (by decide)).trans tq_31) (by rfl) ?_
  refine ma_cV [_] dX11_points_8 wX7_read lX11_170 iX7_read sX7_read rfl (by first | exact bh_44 | exact ((bh_n (by decide)).trans ((tq_n (by decide) (by decide)).trans hx)) | exact ((bh_n (by decide)).trans ((tq_n (by decide) (by decide)).trans h1)) | exact (bh_n (by decide)).trans tq_31) (Nat.le_of_ble_eq_true rfl) ?_
  refine c_X7_read ((tq_n (by decide) (by decide)).trans h1) ((tq_n (by decide) (by decide)).trans h2) (by decide) (by decide) hG (fun E P q hB => ?_)
  have bc := br_b (E := E) (P := P) (G := G) ht
  have b1 := ct_in (fun j => G j < 0) (4 * t).toNat
  have b2 := ct_in (fun i => 0 < dA E (16 * t) i ∧ E i = E (tr i)) 128
  have b3 := ct_in (fun i => 0 < zA P (4 * t) i ∧ sA P G (16 * t) i = 0 ∧ xi (zA P (4 * t)) (nA P E (16 * t)) (sA P G (16 * t)) i = 2) 32
  have b4 := ct_in (qP P) (4 * t).toNat
  have b5 := ct_in (cP E) (16 * t).toNat
  have b6 := lf_b32 bc.2 32 (by decide)
  have b7 := lf_b (c := dA E (16 * t)) (f := dA E (16 * t)) (b := 1073741824) (fun i i0 i1 => by have := bc.1 i i0 i1; omega) (by decide) 128 (by decide)
  have b8 := gf_b bc.1 128 (by decide)
  have b9 := ct_in (fun i => dA E (16 * t) i = lf (dA E (16 * t)) (dA E (16 * t)) 1073741824 128) 128
  have b10 := ct_in (fun i => dA E (16 * t) i = gf (dA E (16 * t)) 128) 128
  refine ma_aload_n dX11_points_11 rfl ?_
  refine ma_getf dX11_points_12 fX11_40 (by first | exact bh_44 | exact ((bh_n (by decide)).trans ((tq_n (by decide) (by decide)).trans hx)) | exact ((bh_n (by decide)).trans ((tq_n (by decide) (by decide)).trans h1)) | exact (bh_n (by decide)).trans tq_31) (by rfl) ?_
  refine ma_cV [] dX11_points_15 wX9_clear lX11_141 iX9_clear sX9_clear rfl (by first | exact bh_44 | exact ((bh_n (by decide)).trans ((tq_n (by decide) (by decide)).trans hx)) | exact ((bh_n (by decide)).trans ((tq_n (by decide) (by decide)).trans h1)) | exact (bh_n (by decide)).trans tq_31) (Nat.le_of_ble_eq_true rfl) ?_
  refine t_clear ?_
  refine ma_aload_n dX11_points_18 rfl ?_
  refine ma_getf dX11_points_19 fX11_40 (by first | exact bh_44 | exact ((bh_n (by decide)).trans ((tq_n (by decide) (by decide)).trans hx)) | exact ((bh_n (by decide)).trans ((tq_n (by decide) (by decide)).trans h1)) | exact (bh_n (by decide)).trans tq_31) (by rfl) ?_
  refine ma_aload_n dX11_points_22 rfl ?_
  refine ma_getf dX11_points_23 fX11_68 (by first | exact bh_44 | exact ((bh_n (by decide)).trans ((tq_n (by decide) (by decide)).trans hx)) | exact ((bh_n (by decide)).trans ((tq_n (by decide) (by decide)).trans h1)) | exact (bh_n (by decide)).trans tq_31) (by rfl) ?_
  refine ma_cV [] dX11_points_26 wX7_roundPoints lX11_218 iX7_roundPoints sX7_roundPoints rfl (by first | exact bh_44 | exact ((bh_n (by decide)).trans ((tq_n (by decide) (by decide)).trans hx)) | exact ((bh_n (by decide)).trans ((tq_n (by decide) (by decide)).trans h1)) | exact (bh_n (by decide)).trans tq_31) (Nat.le_of_ble_eq_true rfl) ?_
  refine c_X7_roundPoints bc.2 ?_
  refine ma_i2l dX11_points_29 ?_
  refine ma_cV [_] dX11_points_30 wX9_add lX11_144 iX9_add sX9_add rfl (by first | exact bh_44 | exact ((bh_n (by decide)).trans ((tq_n (by decide) (by decide)).trans hx)) | exact ((bh_n (by decide)).trans ((tq_n (by decide) (by decide)).trans h1)) | exact (bh_n (by decide)).trans tq_31) (Nat.le_of_ble_eq_true rfl) ?_
  refine t_add (by decide) (iw_of (by omega) (by omega)) ?_
  refine ma_aload_n dX11_points_33 rfl ?_
  refine ma_getf dX11_points_34 fX11_40 (by first | exact bh_44 | exact ((bh_n (by decide)).trans ((tq_n (by decide) (by decide)).trans hx)) | exact ((bh_n (by decide)).trans ((tq_n (by decide) (by decide)).trans h1)) | exact (bh_n (by decide)).trans tq_31) (by rfl) ?_
  refine ma_aload_n dX11_points_37 rfl ?_
  refine ma_getf dX11_points_38 fX11_68 (by first | exact bh_44 | exact ((bh_n (by decide)).trans ((tq_n (by decide) (by decide)).trans hx)) | exact ((bh_n (by decide)).trans ((tq_n (by decide) (by decide)).trans h1)) | exact (bh_n (by decide)).trans tq_31) (by rfl) ?_
  refine ma_cV [] dX11_points_41 wX7_leastChi lX11_221 iX7_leastChi sX7_leastChi rfl (by first | exact bh_44 | exact ((bh_n (by decide)).trans ((tq_n (by decide) (by decide)).trans hx)) | exact ((bh_n (by decide)).trans ((tq_n (by decide) (by decide)).trans h1)) | exact (bh_n (by decide)).trans tq_31) (Nat.le_of_ble_eq_true rfl) ?_
  refine c_X7_leastChi bc.2 ?_
  refine ma_i2l dX11_points_44 ?_
  refine ma_cV [_] dX11_points_45 wX9_add lX11_144 iX9_add sX9_add rfl (by first | exact bh_44 | exact ((bh_n (by decide)).trans ((tq_n (by decide) (by decide)).trans hx)) | exact ((bh_n (by decide)).trans ((tq_n (by decide) (by decide)).trans h1)) | exact (bh_n (by decide)).trans tq_31) (Nat.le_of_ble_eq_true rfl) ?_
  refine t_add (by decide) (iw_of (by omega) (by omega)) ?_
  refine ma_aload_n dX11_points_48 rfl ?_
  refine ma_getf dX11_points_49 fX11_68 (by first | exact bh_44 | exact ((bh_n (by decide)).trans ((tq_n (by decide) (by decide)).trans hx)) | exact ((bh_n (by decide)).trans ((tq_n (by decide) (by decide)).trans h1)) | exact (bh_n (by decide)).trans tq_31) (by rfl) ?_
  refine ma_getf dX11_points_52 fX11_224 (by first | exact bh_44 | exact ((bh_n (by decide)).trans ((tq_n (by decide) (by decide)).trans hx)) | exact ((bh_n (by decide)).trans ((tq_n (by decide) (by decide)).trans h1)) | exact (bh_n (by decide)).trans tq_31) (by rfl) ?_
  refine ma_iret dX11_points_55 rfl ?_
  exact K E P q hB
set_option maxHeartbeats 2000000 in
theorem c_X11_edges {h : ma_H} {nx d : Nat} {t s sz : Int} {G T : Int → Int} {Q : Option ma_V → ma_H → Nat → Prop} {E0 X0 D0 F0 P0 Z0 N0 S0 q0 : Int → Int} {ec0 pc0 : Int} (hx : h 0 = co 11 (xo s)) (h1 : h 1 = co 8 [vi t, vr 2]) (h2 : h 2 = ci 32 G) (hG : VG t G) (K : ∀ E P q, BP t G E P → Q (some (vi (ct (cP E) (16 * t).toNat))) (br (tq h 5 (uf (uf (uf (uf (uf T 0 (lf (dA E (16 * t)) (dA E (16 * t)) 1073741824 128)) 1 (ct (fun i => dA E (16 * t) i = lf (dA E (16 * t)) (dA E (16 * t)) 1073741824 128) 128)) 2 (gf (dA E (16 * t)) 128)) 3 (ct (fun i => dA E (16 * t) i = gf (dA E (16 * t)) 128) 128)) 4 (ct (fun i => 0 < dA E (16 * t) i ∧ E i = E (tr i)) 128))) t G E P q) nx) : ma_Ct mX11_edges (d + 4) 0 0 [vr 0] (bh (tq h sz T) E0 X0 D0 F0 P0 Z0 N0 S0 q0 ec0 pc0) nx Q := by
  have ht := hG.1
  refine ma_Ct.of (by decide +kernel) (Nat.le_of_ble_eq_true rfl) ?_
  refine ma_aload_n dX11_edges_0 rfl ?_
  refine ma_getf dX11_edges_1 fX11_68 (by first | exact bh_44 | exact ((bh_n (by decide)).trans ((tq_n (by decide) (by decide)).trans hx)) | exact ((bh_n (by decide)).trans ((tq_n (by decide) (by decide)).trans h1)) | exact (bh_n (by decide)).trans tq_31) (by rfl) ?_
  refine ma_aload_n dX11_edges_4 rfl ?_
  refine ma_getf dX11_edges_5 fX11_10 (by first | exact bh_44 | exact ((bh_n (by decide)).trans ((tq_n (by decide) (by decide)).trans hx)) | exact ((bh_n (by decide)).trans ((tq_n (by decide) (by decide)).trans h1)) | exact (bh_n (by decide)).trans tq_31) (by rfl) ?_
  refine ma_cV [_] dX11_edges_8 wX7_read lX11_170 iX7_read sX7_read rfl (by first | exact bh_44 | exact ((bh_n (by decide)).trans ((tq_n (by decide) (by decide)).trans hx)) | exact ((bh_n (by decide)).trans ((tq_n (by decide) (by decide)).trans h1)) | exact (bh_n (by decide)).trans tq_31) (Nat.le_of_ble_eq_true rfl) ?_
  refine c_X7_read ((tq_n (by decide) (by decide)).trans h1) ((tq_n (by decide) (by decide)).trans h2) (by decide) (by decide) hG (fun E P q hB => ?_)
  have bc := br_b (E := E) (P := P) (G := G) ht
  have b1 := ct_in (fun j => G j < 0) (4 * t).toNat
  have b2 := ct_in (fun i => 0 < dA E (16 * t) i ∧ E i = E (tr i)) 128
  have b3 := ct_in (fun i => 0 < zA P (4 * t) i ∧ sA P G (16 * t) i = 0 ∧ xi (zA P (4 * t)) (nA P E (16 * t)) (sA P G (16 * t)) i = 2) 32
  have b4 := ct_in (qP P) (4 * t).toNat
  have b5 := ct_in (cP E) (16 * t).toNat
  have b6 := lf_b32 bc.2 32 (by decide)
  have b7 := lf_b (c := dA E (16 * t)) (f := dA E (16 * t)) (b := 1073741824) (fun i i0 i1 => by have := bc.1 i i0 i1; omega) (by decide) 128 (by decide)
  have b8 := gf_b bc.1 128 (by decide)
  have b9 := ct_in (fun i => dA E (16 * t) i = lf (dA E (16 * t)) (dA E (16 * t)) 1073741824 128) 128
  have b10 := ct_in (fun i => dA E (16 * t) i = gf (dA E (16 * t)) 128) 128
  refine ma_aload_n dX11_edges_11 rfl ?_
  refine ma_getf dX11_edges_12 fX11_68 (by first | exact bh_44 | exact ((bh_n (by decide)).trans ((tq_n (by decide) (by decide)).trans hx)) | exact ((bh_n (by decide)).trans ((tq_n (by decide) (by decide)).trans h1)) | exact (bh_n (by decide)).trans tq_31) (by rfl) ?_
  refine ma_cV [] dX11_edges_15 wX7_leastDegree lX11_203 iX7_leastDegree sX7_leastDegree rfl (by first | exact bh_44 | exact ((bh_n (by decide)).trans ((tq_n (by decide) (by decide)).trans hx)) | exact ((bh_n (by decide)).trans ((tq_n (by decide) (by decide)).trans h1)) | exact (bh_n (by decide)).trans tq_31) (Nat.le_of_ble_eq_true rfl) ?_
  refine c_X7_leastDegree bc.1 ?_
  refine ma_istore_nN dX11_edges_18 (by decide) rfl ?_
  refine ma_aload_n dX11_edges_19 rfl ?_
  refine ma_getf dX11_edges_20 fX11_68 (by first | exact bh_44 | exact ((bh_n (by decide)).trans ((tq_n (by decide) (by decide)).trans hx)) | exact ((bh_n (by decide)).trans ((tq_n (by decide) (by decide)).trans h1)) | exact (bh_n (by decide)).trans tq_31) (by rfl) ?_
  refine ma_cV [] dX11_edges_23 wX7_greatestDegree lX11_206 iX7_greatestDegree sX7_greatestDegree rfl (by first | exact bh_44 | exact ((bh_n (by decide)).trans ((tq_n (by decide) (by decide)).trans hx)) | exact ((bh_n (by decide)).trans ((tq_n (by decide) (by decide)).trans h1)) | exact (bh_n (by decide)).trans tq_31) (Nat.le_of_ble_eq_true rfl) ?_
  refine c_X7_greatestDegree bc.1 ?_
  refine ma_istore_nN dX11_edges_26 (by decide) rfl ?_
  refine ma_aload_n dX11_edges_27 rfl ?_
  refine ma_getf dX11_edges_28 fX11_40 (by first | exact bh_44 | exact ((bh_n (by decide)).trans ((tq_n (by decide) (by decide)).trans hx)) | exact ((bh_n (by decide)).trans ((tq_n (by decide) (by decide)).trans h1)) | exact (bh_n (by decide)).trans tq_31) (by rfl) ?_
  refine ma_cV [] dX11_edges_31 wX9_clear lX11_141 iX9_clear sX9_clear rfl (by first | exact bh_44 | exact ((bh_n (by decide)).trans ((tq_n (by decide) (by decide)).trans hx)) | exact ((bh_n (by decide)).trans ((tq_n (by decide) (by decide)).trans h1)) | exact (bh_n (by decide)).trans tq_31) (Nat.le_of_ble_eq_true rfl) ?_
  refine t_clear ?_
  refine ma_aload_n dX11_edges_34 rfl ?_
  refine ma_getf dX11_edges_35 fX11_40 (by first | exact bh_44 | exact ((bh_n (by decide)).trans ((tq_n (by decide) (by decide)).trans hx)) | exact ((bh_n (by decide)).trans ((tq_n (by decide) (by decide)).trans h1)) | exact (bh_n (by decide)).trans tq_31) (by rfl) ?_
  refine ma_iload_n dX11_edges_38 rfl ?_
  refine ma_i2l dX11_edges_39 ?_
  refine ma_cV [_] dX11_edges_40 wX9_add lX11_144 iX9_add sX9_add rfl (by first | exact bh_44 | exact ((bh_n (by decide)).trans ((tq_n (by decide) (by decide)).trans hx)) | exact ((bh_n (by decide)).trans ((tq_n (by decide) (by decide)).trans h1)) | exact (bh_n (by decide)).trans tq_31) (Nat.le_of_ble_eq_true rfl) ?_
  refine t_add (by decide) (iw_of (by omega) (by omega)) ?_
  refine ma_aload_n dX11_edges_43 rfl ?_
  refine ma_getf dX11_edges_44 fX11_40 (by first | exact bh_44 | exact ((bh_n (by decide)).trans ((tq_n (by decide) (by decide)).trans hx)) | exact ((bh_n (by decide)).trans ((tq_n (by decide) (by decide)).trans h1)) | exact (bh_n (by decide)).trans tq_31) (by rfl) ?_
  refine ma_aload_n dX11_edges_47 rfl ?_
  refine ma_getf dX11_edges_48 fX11_68 (by first | exact bh_44 | exact ((bh_n (by decide)).trans ((tq_n (by decide) (by decide)).trans hx)) | exact ((bh_n (by decide)).trans ((tq_n (by decide) (by decide)).trans h1)) | exact (bh_n (by decide)).trans tq_31) (by rfl) ?_
  refine ma_iload_n dX11_edges_51 rfl ?_
  refine ma_cV [_] dX11_edges_52 wX7_edgesOfDegree lX11_209 iX7_edgesOfDegree sX7_edgesOfDegree rfl (by first | exact bh_44 | exact ((bh_n (by decide)).trans ((tq_n (by decide) (by decide)).trans hx)) | exact ((bh_n (by decide)).trans ((tq_n (by decide) (by decide)).trans h1)) | exact (bh_n (by decide)).trans tq_31) (Nat.le_of_ble_eq_true rfl) ?_
  refine c_X7_edgesOfDegree bc.1 (by omega) ?_
  refine ma_i2l dX11_edges_55 ?_
  refine ma_cV [_] dX11_edges_56 wX9_add lX11_144 iX9_add sX9_add rfl (by first | exact bh_44 | exact ((bh_n (by decide)).trans ((tq_n (by decide) (by decide)).trans hx)) | exact ((bh_n (by decide)).trans ((tq_n (by decide) (by decide)).trans h1)) | exact (bh_n (by decide)).trans tq_31) (Nat.le_of_ble_eq_true rfl) ?_
  refine t_add (by decide) (iw_of (by omega) (by omega)) ?_
  refine ma_aload_n dX11_edges_59 rfl ?_
  refine ma_getf dX11_edges_60 fX11_40 (by first | exact bh_44 | exact ((bh_n (by decide)).trans ((tq_n (by decide) (by decide)).trans hx)) | exact ((bh_n (by decide)).trans ((tq_n (by decide) (by decide)).trans h1)) | exact (bh_n (by decide)).trans tq_31) (by rfl) ?_
  refine ma_iload_n dX11_edges_63 rfl ?_
  refine ma_i2l dX11_edges_64 ?_
  refine ma_cV [_] dX11_edges_65 wX9_add lX11_144 iX9_add sX9_add rfl (by first | exact bh_44 | exact ((bh_n (by decide)).trans ((tq_n (by decide) (by decide)).trans hx)) | exact ((bh_n (by decide)).trans ((tq_n (by decide) (by decide)).trans h1)) | exact (bh_n (by decide)).trans tq_31) (Nat.le_of_ble_eq_true rfl) ?_
  refine t_add (by decide) (iw_of (by omega) (by omega)) ?_
  refine ma_aload_n dX11_edges_68 rfl ?_
  refine ma_getf dX11_edges_69 fX11_40 (by first | exact bh_44 | exact ((bh_n (by decide)).trans ((tq_n (by decide) (by decide)).trans hx)) | exact ((bh_n (by decide)).trans ((tq_n (by decide) (by decide)).trans h1)) | exact (bh_n (by decide)).trans tq_31) (by rfl) ?_
  refine ma_aload_n dX11_edges_72 rfl ?_
  refine ma_getf dX11_edges_73 fX11_68 (by first | exact bh_44 | exact ((bh_n (by decide)).trans ((tq_n (by decide) (by decide)).trans hx)) | exact ((bh_n (by decide)).trans ((tq_n (by decide) (by decide)).trans h1)) | exact (bh_n (by decide)).trans tq_31) (by rfl) ?_
  refine ma_iload_n dX11_edges_76 rfl ?_
  refine ma_cV [_] dX11_edges_77 wX7_edgesOfDegree lX11_209 iX7_edgesOfDegree sX7_edgesOfDegree rfl (by first | exact bh_44 | exact ((bh_n (by decide)).trans ((tq_n (by decide) (by decide)).trans hx)) | exact ((bh_n (by decide)).trans ((tq_n (by decide) (by decide)).trans h1)) | exact (bh_n (by decide)).trans tq_31) (Nat.le_of_ble_eq_true rfl) ?_
  refine c_X7_edgesOfDegree bc.1 (by omega) ?_
  refine ma_i2l dX11_edges_80 ?_
  refine ma_cV [_] dX11_edges_81 wX9_add lX11_144 iX9_add sX9_add rfl (by first | exact bh_44 | exact ((bh_n (by decide)).trans ((tq_n (by decide) (by decide)).trans hx)) | exact ((bh_n (by decide)).trans ((tq_n (by decide) (by decide)).trans h1)) | exact (bh_n (by decide)).trans tq_31) (Nat.le_of_ble_eq_true rfl) ?_
  refine t_add (by decide) (iw_of (by omega) (by omega)) ?_
  refine ma_aload_n dX11_edges_84 rfl ?_
  refine ma_getf dX11_edges_85 fX11_40 (by first | exact bh_44 | exact ((bh_n (by decide)).trans ((tq_n (by decide) (by decide)).trans hx)) | exact ((bh_n (by decide)).trans ((tq_n (by decide) (by decide)).trans h1)) | exact (bh_n (by decide)).trans tq_31) (by rfl) ?_
  refine ma_aload_n dX11_edges_88 rfl ?_
  refine ma_getf dX11_edges_89 fX11_68 (by first | exact bh_44 | exact ((bh_n (by decide)).trans ((tq_n (by decide) (by decide)).trans hx)) | exact ((bh_n (by decide)).trans ((tq_n (by decide) (by decide)).trans h1)) | exact (bh_n (by decide)).trans tq_31) (by rfl) ?_
  refine ma_cV [] dX11_edges_92 wX7_reversedEdges lX11_212 iX7_reversedEdges sX7_reversedEdges rfl (by first | exact bh_44 | exact ((bh_n (by decide)).trans ((tq_n (by decide) (by decide)).trans hx)) | exact ((bh_n (by decide)).trans ((tq_n (by decide) (by decide)).trans h1)) | exact (bh_n (by decide)).trans tq_31) (Nat.le_of_ble_eq_true rfl) ?_
  refine c_X7_reversedEdges bc.1 (bp_E hB) ?_
  refine ma_i2l dX11_edges_95 ?_
  refine ma_cV [_] dX11_edges_96 wX9_add lX11_144 iX9_add sX9_add rfl (by first | exact bh_44 | exact ((bh_n (by decide)).trans ((tq_n (by decide) (by decide)).trans hx)) | exact ((bh_n (by decide)).trans ((tq_n (by decide) (by decide)).trans h1)) | exact (bh_n (by decide)).trans tq_31) (Nat.le_of_ble_eq_true rfl) ?_
  refine t_add (by decide) (iw_of (by omega) (by omega)) ?_
  refine ma_aload_n dX11_edges_99 rfl ?_
  refine ma_getf dX11_edges_100 fX11_68 (by first | exact bh_44 | exact ((bh_n (by decide)).trans ((tq_n (by decide) (by decide)).trans hx)) | exact ((bh_n (by decide)).trans ((tq_n (by decide) (by decide)).trans h1)) | exact (bh_n (by decide)).trans tq_31) (by rfl) ?_
  refine ma_getf dX11_edges_103 fX11_215 (by first | exact bh_44 | exact ((bh_n (by decide)).trans ((tq_n (by decide) (by decide)).trans hx)) | exact ((bh_n (by decide)).trans ((tq_n (by decide) (by decide)).trans h1)) | exact (bh_n (by decide)).trans tq_31) (by rfl) ?_
  refine ma_iret dX11_edges_106 rfl ?_
  exact K E P q hB
set_option maxHeartbeats 2000000 in
theorem c_X11_manifold {h : ma_H} {nx d : Nat} {t s sz : Int} {G T : Int → Int} {Q : Option ma_V → ma_H → Nat → Prop} {E0 X0 D0 F0 P0 Z0 N0 S0 q0 : Int → Int} {ec0 pc0 : Int} (hx : h 0 = co 11 (xo s)) (h1 : h 1 = co 8 [vi t, vr 2]) (h2 : h 2 = ci 32 G) (hG : VG t G) (K : ∀ E P q fl, BP t G E P → (fl = 1 ∧ MF t G E P) ∨ (fl = 0 ∧ ¬ MF t G E P) → Q (some (vi fl)) (br (tq h 3 (uf (uf (uf T 0 (ct (fun j => G j < 0) (4 * t).toNat)) 1 (ct (fun i => 0 < dA E (16 * t) i ∧ E i = E (tr i)) 128)) 2 (ct (qP P) (4 * t).toNat - ct (fun i => 0 < zA P (4 * t) i ∧ sA P G (16 * t) i = 0 ∧ xi (zA P (4 * t)) (nA P E (16 * t)) (sA P G (16 * t)) i = 2) 32))) t G E P q) nx) : ma_Ct mX11_manifold (d + 4) 0 0 [vr 0] (bh (tq h sz T) E0 X0 D0 F0 P0 Z0 N0 S0 q0 ec0 pc0) nx Q := by
  have ht := hG.1
  refine ma_Ct.of (by decide +kernel) (Nat.le_of_ble_eq_true rfl) ?_
  refine ma_aload_n dX11_manifold_0 rfl ?_
  refine ma_getf dX11_manifold_1 fX11_68 (by first | exact bh_44 | exact ((bh_n (by decide)).trans ((tq_n (by decide) (by decide)).trans hx)) | exact ((bh_n (by decide)).trans ((tq_n (by decide) (by decide)).trans h1)) | exact (bh_n (by decide)).trans tq_31) (by rfl) ?_
  refine ma_aload_n dX11_manifold_4 rfl ?_
  refine ma_getf dX11_manifold_5 fX11_10 (by first | exact bh_44 | exact ((bh_n (by decide)).trans ((tq_n (by decide) (by decide)).trans hx)) | exact ((bh_n (by decide)).trans ((tq_n (by decide) (by decide)).trans h1)) | exact (bh_n (by decide)).trans tq_31) (by rfl) ?_
  refine ma_cV [_] dX11_manifold_8 wX7_read lX11_170 iX7_read sX7_read rfl (by first | exact bh_44 | exact ((bh_n (by decide)).trans ((tq_n (by decide) (by decide)).trans hx)) | exact ((bh_n (by decide)).trans ((tq_n (by decide) (by decide)).trans h1)) | exact (bh_n (by decide)).trans tq_31) (Nat.le_of_ble_eq_true rfl) ?_
  refine c_X7_read ((tq_n (by decide) (by decide)).trans h1) ((tq_n (by decide) (by decide)).trans h2) (by decide) (by decide) hG (fun E P q hB => ?_)
  have bc := br_b (E := E) (P := P) (G := G) ht
  have b1 := ct_in (fun j => G j < 0) (4 * t).toNat
  have b2 := ct_in (fun i => 0 < dA E (16 * t) i ∧ E i = E (tr i)) 128
  have b3 := ct_in (fun i => 0 < zA P (4 * t) i ∧ sA P G (16 * t) i = 0 ∧ xi (zA P (4 * t)) (nA P E (16 * t)) (sA P G (16 * t)) i = 2) 32
  have b4 := ct_in (qP P) (4 * t).toNat
  have b5 := ct_in (cP E) (16 * t).toNat
  have b6 := lf_b32 bc.2 32 (by decide)
  have b7 := lf_b (c := dA E (16 * t)) (f := dA E (16 * t)) (b := 1073741824) (fun i i0 i1 => by have := bc.1 i i0 i1; omega) (by decide) 128 (by decide)
  have b8 := gf_b bc.1 128 (by decide)
  have b9 := ct_in (fun i => dA E (16 * t) i = lf (dA E (16 * t)) (dA E (16 * t)) 1073741824 128) 128
  have b10 := ct_in (fun i => dA E (16 * t) i = gf (dA E (16 * t)) 128) 128
  refine ma_aload_n dX11_manifold_11 rfl ?_
  refine ma_getf dX11_manifold_12 fX11_40 (by first | exact bh_44 | exact ((bh_n (by decide)).trans ((tq_n (by decide) (by decide)).trans hx)) | exact ((bh_n (by decide)).trans ((tq_n (by decide) (by decide)).trans h1)) | exact (bh_n (by decide)).trans tq_31) (by rfl) ?_
  refine ma_cV [] dX11_manifold_15 wX9_clear lX11_141 iX9_clear sX9_clear rfl (by first | exact bh_44 | exact ((bh_n (by decide)).trans ((tq_n (by decide) (by decide)).trans hx)) | exact ((bh_n (by decide)).trans ((tq_n (by decide) (by decide)).trans h1)) | exact (bh_n (by decide)).trans tq_31) (Nat.le_of_ble_eq_true rfl) ?_
  refine t_clear ?_
  refine ma_aload_n dX11_manifold_18 rfl ?_
  refine ma_getf dX11_manifold_19 fX11_40 (by first | exact bh_44 | exact ((bh_n (by decide)).trans ((tq_n (by decide) (by decide)).trans hx)) | exact ((bh_n (by decide)).trans ((tq_n (by decide) (by decide)).trans h1)) | exact (bh_n (by decide)).trans tq_31) (by rfl) ?_
  refine ma_aload_n dX11_manifold_22 rfl ?_
  refine ma_getf dX11_manifold_23 fX11_10 (by first | exact bh_44 | exact ((bh_n (by decide)).trans ((tq_n (by decide) (by decide)).trans hx)) | exact ((bh_n (by decide)).trans ((tq_n (by decide) (by decide)).trans h1)) | exact (bh_n (by decide)).trans tq_31) (by rfl) ?_
  refine ma_cV [] dX11_manifold_26 wX8_freeFaces lX11_162 iX8_freeFaces sX8_freeFaces rfl (by first | exact bh_44 | exact ((bh_n (by decide)).trans ((tq_n (by decide) (by decide)).trans hx)) | exact ((bh_n (by decide)).trans ((tq_n (by decide) (by decide)).trans h1)) | exact (bh_n (by decide)).trans tq_31) (Nat.le_of_ble_eq_true rfl) ?_
  refine c_X8_freeFaces ((bh_n (by decide)).trans ((tq_n (by decide) (by decide)).trans h1)) ((bh_n (by decide)).trans ((tq_n (by decide) (by decide)).trans h2)) (by omega) (fun j j0 j1 => by have := vg_in hG j0 j1; unfold rg; omega) ?_
  rw [nc_ct]
  refine ma_i2l dX11_manifold_29 ?_
  refine ma_cV [_] dX11_manifold_30 wX9_add lX11_144 iX9_add sX9_add rfl (by first | exact bh_44 | exact ((bh_n (by decide)).trans ((tq_n (by decide) (by decide)).trans hx)) | exact ((bh_n (by decide)).trans ((tq_n (by decide) (by decide)).trans h1)) | exact (bh_n (by decide)).trans tq_31) (Nat.le_of_ble_eq_true rfl) ?_
  refine t_add (by decide) (iw_of (by omega) (by omega)) ?_
  refine ma_aload_n dX11_manifold_33 rfl ?_
  refine ma_getf dX11_manifold_34 fX11_40 (by first | exact bh_44 | exact ((bh_n (by decide)).trans ((tq_n (by decide) (by decide)).trans hx)) | exact ((bh_n (by decide)).trans ((tq_n (by decide) (by decide)).trans h1)) | exact (bh_n (by decide)).trans tq_31) (by rfl) ?_
  refine ma_aload_n dX11_manifold_37 rfl ?_
  refine ma_getf dX11_manifold_38 fX11_68 (by first | exact bh_44 | exact ((bh_n (by decide)).trans ((tq_n (by decide) (by decide)).trans hx)) | exact ((bh_n (by decide)).trans ((tq_n (by decide) (by decide)).trans h1)) | exact (bh_n (by decide)).trans tq_31) (by rfl) ?_
  refine ma_cV [] dX11_manifold_41 wX7_reversedEdges lX11_212 iX7_reversedEdges sX7_reversedEdges rfl (by first | exact bh_44 | exact ((bh_n (by decide)).trans ((tq_n (by decide) (by decide)).trans hx)) | exact ((bh_n (by decide)).trans ((tq_n (by decide) (by decide)).trans h1)) | exact (bh_n (by decide)).trans tq_31) (Nat.le_of_ble_eq_true rfl) ?_
  refine c_X7_reversedEdges bc.1 (bp_E hB) ?_
  refine ma_i2l dX11_manifold_44 ?_
  refine ma_cV [_] dX11_manifold_45 wX9_add lX11_144 iX9_add sX9_add rfl (by first | exact bh_44 | exact ((bh_n (by decide)).trans ((tq_n (by decide) (by decide)).trans hx)) | exact ((bh_n (by decide)).trans ((tq_n (by decide) (by decide)).trans h1)) | exact (bh_n (by decide)).trans tq_31) (Nat.le_of_ble_eq_true rfl) ?_
  refine t_add (by decide) (iw_of (by omega) (by omega)) ?_
  refine ma_aload_n dX11_manifold_48 rfl ?_
  refine ma_getf dX11_manifold_49 fX11_40 (by first | exact bh_44 | exact ((bh_n (by decide)).trans ((tq_n (by decide) (by decide)).trans hx)) | exact ((bh_n (by decide)).trans ((tq_n (by decide) (by decide)).trans h1)) | exact (bh_n (by decide)).trans tq_31) (by rfl) ?_
  refine ma_aload_n dX11_manifold_52 rfl ?_
  refine ma_getf dX11_manifold_53 fX11_68 (by first | exact bh_44 | exact ((bh_n (by decide)).trans ((tq_n (by decide) (by decide)).trans hx)) | exact ((bh_n (by decide)).trans ((tq_n (by decide) (by decide)).trans h1)) | exact (bh_n (by decide)).trans tq_31) (by rfl) ?_
  refine ma_getf dX11_manifold_56 fX11_224 (by first | exact bh_44 | exact ((bh_n (by decide)).trans ((tq_n (by decide) (by decide)).trans hx)) | exact ((bh_n (by decide)).trans ((tq_n (by decide) (by decide)).trans h1)) | exact (bh_n (by decide)).trans tq_31) (by rfl) ?_
  refine ma_aload_n dX11_manifold_59 rfl ?_
  refine ma_getf dX11_manifold_60 fX11_68 (by first | exact bh_44 | exact ((bh_n (by decide)).trans ((tq_n (by decide) (by decide)).trans hx)) | exact ((bh_n (by decide)).trans ((tq_n (by decide) (by decide)).trans h1)) | exact (bh_n (by decide)).trans tq_31) (by rfl) ?_
  refine ma_cV [] dX11_manifold_63 wX7_roundPoints lX11_218 iX7_roundPoints sX7_roundPoints rfl (by first | exact bh_44 | exact ((bh_n (by decide)).trans ((tq_n (by decide) (by decide)).trans hx)) | exact ((bh_n (by decide)).trans ((tq_n (by decide) (by decide)).trans h1)) | exact (bh_n (by decide)).trans tq_31) (Nat.le_of_ble_eq_true rfl) ?_
  refine c_X7_roundPoints bc.2 ?_
  refine ma_isub dX11_manifold_66 ?_
  refine ma_i2l dX11_manifold_67 ?_
  refine ma_cV [_] dX11_manifold_68 wX9_add lX11_144 iX9_add sX9_add rfl (by first | exact bh_44 | exact ((bh_n (by decide)).trans ((tq_n (by decide) (by decide)).trans hx)) | exact ((bh_n (by decide)).trans ((tq_n (by decide) (by decide)).trans h1)) | exact (bh_n (by decide)).trans tq_31) (Nat.le_of_ble_eq_true rfl) ?_
  refine t_add (by decide) (iw_of (by omega) (by omega)) ?_
  refine ma_aload_n dX11_manifold_71 rfl ?_
  refine ma_aload_n dX11_manifold_72 rfl ?_
  refine ma_getf dX11_manifold_73 fX11_10 (by first | exact bh_44 | exact ((bh_n (by decide)).trans ((tq_n (by decide) (by decide)).trans hx)) | exact ((bh_n (by decide)).trans ((tq_n (by decide) (by decide)).trans h1)) | exact (bh_n (by decide)).trans tq_31) (by rfl) ?_
  refine ma_cV [_] dX11_manifold_76 wX11_isManifold lX11_227 iX11_isManifold sX11_isManifold rfl (by first | exact bh_44 | exact ((bh_n (by decide)).trans ((tq_n (by decide) (by decide)).trans hx)) | exact ((bh_n (by decide)).trans ((tq_n (by decide) (by decide)).trans h1)) | exact (bh_n (by decide)).trans tq_31) (Nat.le_of_ble_eq_true rfl) ?_
  refine c_X11_isManifold ((tq_n (by decide) (by decide)).trans hx) ((tq_n (by decide) (by decide)).trans h1) ((tq_n (by decide) (by decide)).trans h2) (by decide) (by decide) hG hB (fun hmf => ?_) (fun hmf => ?_)
  · -- k1
    refine ma_rif_eq 86 dX11_manifold_79 rfl (by decide) (fun c79 => absurd c79 (by decide)) (fun c79 => ?_)
    refine ma_iconst dX11_manifold_82 ?_
    refine ma_goto 87 dX11_manifold_83 rfl ?_
    refine ma_iret dX11_manifold_87 rfl ?_
    first | exact K E P q 1 hB (Or.inl ⟨rfl, hmf⟩) | exact K E P q 0 hB (Or.inr ⟨rfl, hmf⟩)
  · -- k0
    refine ma_rif_eq 86 dX11_manifold_79 rfl (by decide) (fun c79 => ?_) (fun c79 => absurd c79 (by decide))
    refine ma_iconst dX11_manifold_86 ?_
    refine ma_iret dX11_manifold_87 rfl ?_
    first | exact K E P q 1 hB (Or.inl ⟨rfl, hmf⟩) | exact K E P q 0 hB (Or.inr ⟨rfl, hmf⟩)
