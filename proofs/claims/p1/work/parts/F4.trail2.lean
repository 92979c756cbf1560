theorem ts_at (T : Int → Int) (n : Int) (S : Int → Int) : ∀ (i j : Nat) (c : Int), j < i → 0 ≤ c → c < 4 → ts T n S i (4 * (j : Int) + c) = if c = 0 then kd (sg T n (ta T n j)) else td T n (ta T n j) c
  | 0, j, c, h, _, _ => absurd h (by omega)
  | i + 1, j, c, h, c0, c4 => by
    show tk T n (ta T n i) i (uf (ts T n S i) (4 * (i : Int)) (kd (sg T n (ta T n i)))) 4 (4 * (j : Int) + c) = _
    unfold tk
    by_cases e : j = i
    · subst e
      by_cases z : c = 0
      · rw [if_neg (by omega), if_pos z, z, Int.add_zero, uf_s]
      · rw [if_pos (by omega), if_neg z, show 4 * (j : Int) + c - 4 * (j : Int) = c by omega]
    · rw [if_neg (by omega), uf_n (by omega)]
      exact ts_at T n S i j c (by omega) c0 c4
theorem tf_kk {T : Int → Int} {n x : Int} (x0 : 0 ≤ x) (h : tf T n x = -1) : 0 ≤ kd (sg T n x) := by
  unfold tf at h
  split at h
  · omega
  · omega
theorem ts_v {T : Int → Int} {n i : Int} {S : Int → Int} (i0 : 0 ≤ i) (h : TOK T n i) : ∀ j, 0 ≤ j → j < i → (0 ≤ ts T n S i.toNat (4 * j) ∧ ts T n S i.toNat (4 * j) < 4) ∧ rg (ts T n S i.toNat (4 * j + 1)) ∧ rg (ts T n S i.toNat (4 * j + 2)) ∧ rg (ts T n S i.toNat (4 * j + 3)) := by
  intro j j0 j1
  obtain ⟨k, rfl⟩ := Int.eq_ofNat_of_zero_le j0
  have a := ts_at T n S i.toNat k
  have e0 := a 0 (by omega) (by decide) (by decide)
  have e1 := a 1 (by omega) (by decide) (by decide)
  have e2 := a 2 (by omega) (by decide) (by decide)
  have e3 := a 3 (by omega) (by decide) (by decide)
  rw [if_pos rfl, Int.add_zero] at e0
  rw [if_neg (by decide)] at e1 e2 e3
  have t1 := td_in T n (ta T n k) 1
  have t2 := td_in T n (ta T n k) 2
  have t3 := td_in T n (ta T n k) 3
  have kk := tf_kk (by have := ta_ge T n k; omega) (h k j1).2
  have kb := kd_in (sg T n (ta T n k))
  rw [e0, e1, e2, e3]
  unfold rg
  omega
theorem l_tl58 {g : ma_H} {d : Nat} {q0 i e t sz fa : Int} {TT : Int → Int} {r1 r2 r3 r4 : ma_V} {Q : Option ma_V → ma_H → Nat → Prop} (g0 : g 0 = co 11 (xo q0)) (g1 : g 1 = co 8 [vi t, r4]) (g33 : g 33 = co 5 [r1, r2, vi i, r3]) (ht : 1 ≤ t ∧ t ≤ 8) (eb : 0 ≤ e ∧ e ≤ i ∧ i ≤ 40) (K : ∀ fl, (e < i ∧ fl = 1) ∨ (e = i ∧ fl = 0) → Q (some (vi e)) (tq g 2 (uf (uf TT 0 fl) 1 t)) 1000000) : ma_J none mX11_trail (d + 6) 0 0 58 [some (vr 0), some (vi fa), some (vi e)] [] (tq g sz TT) 1000000 Q := by
  refine ma_aload_n dX11_trail_58 rfl ?_
  refine ma_getf dX11_trail_59 fX11_40 (by first | exact tq_31 | exact (tq_n (by decide) (by decide)).trans g0 | exact (tq_n (by decide) (by decide)).trans g1 | exact (tq_n (by decide) (by decide)).trans g33) (by rfl) ?_
  refine ma_cV [] dX11_trail_62 wX9_clear lX11_141 iX9_clear sX9_clear rfl (by first | exact tq_31 | exact (tq_n (by decide) (by decide)).trans g0 | exact (tq_n (by decide) (by decide)).trans g1 | exact (tq_n (by decide) (by decide)).trans g33) (Nat.le_of_ble_eq_true rfl) ?_
  refine q_clear ?_
  refine ma_aload_n dX11_trail_65 rfl ?_
  refine ma_getf dX11_trail_66 fX11_40 (by first | exact tq_31 | exact (tq_n (by decide) (by decide)).trans g0 | exact (tq_n (by decide) (by decide)).trans g1 | exact (tq_n (by decide) (by decide)).trans g33) (by rfl) ?_
  refine ma_iload_n dX11_trail_69 rfl ?_
  refine ma_aload_n dX11_trail_70 rfl ?_
  refine ma_getf dX11_trail_71 fX11_47 (by first | exact tq_31 | exact (tq_n (by decide) (by decide)).trans g0 | exact (tq_n (by decide) (by decide)).trans g1 | exact (tq_n (by decide) (by decide)).trans g33) (by rfl) ?_
  refine ma_getf dX11_trail_74 fX11_259 (by first | exact tq_31 | exact (tq_n (by decide) (by decide)).trans g0 | exact (tq_n (by decide) (by decide)).trans g1 | exact (tq_n (by decide) (by decide)).trans g33) (by rfl) ?_
  refine ma_rcmp_ge 84 dX11_trail_77 rfl (by constructor <;> omega) (by constructor <;> omega) (fun c77 => ?_) (fun c77 => ?_)
  · -- 84
    refine ma_iconst dX11_trail_84 ?_
    refine ma_cV [_] dX11_trail_85 wX9_addFlag lX11_179 iX9_addFlag sX9_addFlag rfl (by first | exact tq_31 | exact (tq_n (by decide) (by decide)).trans g0 | exact (tq_n (by decide) (by decide)).trans g1 | exact (tq_n (by decide) (by decide)).trans g33) (Nat.le_of_ble_eq_true rfl) ?_
    refine q_flag (by decide) (by decide) ?_
    refine ma_aload_n dX11_trail_88 rfl ?_
    refine ma_getf dX11_trail_89 fX11_40 (by first | exact tq_31 | exact (tq_n (by decide) (by decide)).trans g0 | exact (tq_n (by decide) (by decide)).trans g1 | exact (tq_n (by decide) (by decide)).trans g33) (by rfl) ?_
    refine ma_aload_n dX11_trail_92 rfl ?_
    refine ma_getf dX11_trail_93 fX11_10 (by first | exact tq_31 | exact (tq_n (by decide) (by decide)).trans g0 | exact (tq_n (by decide) (by decide)).trans g1 | exact (tq_n (by decide) (by decide)).trans g33) (by rfl) ?_
    refine ma_getf dX11_trail_96 fX11_123 (by first | exact tq_31 | exact (tq_n (by decide) (by decide)).trans g0 | exact (tq_n (by decide) (by decide)).trans g1 | exact (tq_n (by decide) (by decide)).trans g33) (by rfl) ?_
    refine ma_i2l dX11_trail_99 ?_
    refine ma_cV [_] dX11_trail_100 wX9_add lX11_144 iX9_add sX9_add rfl (by first | exact tq_31 | exact (tq_n (by decide) (by decide)).trans g0 | exact (tq_n (by decide) (by decide)).trans g1 | exact (tq_n (by decide) (by decide)).trans g33) (Nat.le_of_ble_eq_true rfl) ?_
    refine q_add (by decide) (iw_of (by omega) (by omega)) ?_
    refine ma_iload_n dX11_trail_103 rfl ?_
    exact ma_iret dX11_trail_104 rfl (K 0 (Or.inr ⟨by omega, rfl⟩))
  · -- 80
    refine ma_iconst dX11_trail_80 ?_
    refine ma_goto 85 dX11_trail_81 rfl ?_
    refine ma_cV [_] dX11_trail_85 wX9_addFlag lX11_179 iX9_addFlag sX9_addFlag rfl (by first | exact tq_31 | exact (tq_n (by decide) (by decide)).trans g0 | exact (tq_n (by decide) (by decide)).trans g1 | exact (tq_n (by decide) (by decide)).trans g33) (Nat.le_of_ble_eq_true rfl) ?_
    refine q_flag (by decide) (by decide) ?_
    refine ma_aload_n dX11_trail_88 rfl ?_
    refine ma_getf dX11_trail_89 fX11_40 (by first | exact tq_31 | exact (tq_n (by decide) (by decide)).trans g0 | exact (tq_n (by decide) (by decide)).trans g1 | exact (tq_n (by decide) (by decide)).trans g33) (by rfl) ?_
    refine ma_aload_n dX11_trail_92 rfl ?_
    refine ma_getf dX11_trail_93 fX11_10 (by first | exact tq_31 | exact (tq_n (by decide) (by decide)).trans g0 | exact (tq_n (by decide) (by decide)).trans g1 | exact (tq_n (by decide) (by decide)).trans g33) (by rfl) ?_
    refine ma_getf dX11_trail_96 fX11_123 (by first | exact tq_31 | exact (tq_n (by decide) (by decide)).trans g0 | exact (tq_n (by decide) (by decide)).trans g1 | exact (tq_n (by decide) (by decide)).trans g33) (by rfl) ?_
    refine ma_i2l dX11_trail_99 ?_
    refine ma_cV [_] dX11_trail_100 wX9_add lX11_144 iX9_add sX9_add rfl (by first | exact tq_31 | exact (tq_n (by decide) (by decide)).trans g0 | exact (tq_n (by decide) (by decide)).trans g1 | exact (tq_n (by decide) (by decide)).trans g33) (Nat.le_of_ble_eq_true rfl) ?_
    refine q_add (by decide) (iw_of (by omega) (by omega)) ?_
    refine ma_iload_n dX11_trail_103 rfl ?_
    exact ma_iret dX11_trail_104 rfl (K 1 (Or.inl ⟨by omega, rfl⟩))
theorem tf_in {T : Int → Int} {n x : Int} (hn : 0 ≤ n ∧ n ≤ 80) (hT : ∀ j, 0 ≤ j → j < 80 → 0 ≤ T j ∧ T j < 256) (h : x < n) (h2 : 0 ≤ tf T n x) : tf T n x ≤ 100 := by
  unfold tf
  repeat' split
  all_goals omega
set_option maxHeartbeats 4000000 in
theorem c_X11_trail {h : ma_H} {y z d : Nat} {t u0 q0 ps pn tt n m0 sz : Int} {G F0 GG T S TT : Int → Int} {O : Int → Option Nat} {Q : Option ma_V → ma_H → Nat → Prop} (hx : h 0 = co 11 (xo q0)) (hS : SC h) (h1 : h 1 = co 8 [vi t, vr 2]) (h2 : h 2 = ci 32 G) (h3 : h 3 = co 8 [vi u0, vr 4]) (h4 : h 4 = ci 32 F0) (hp : h 13 = co 3 [vi ps, vi pn, vr 14]) (hw : h 14 = cq 8 O) (hpn : 0 ≤ pn ∧ pn < 8) (hps : 0 ≤ ps ∧ ps ≤ 8) (hO : O pn = some y) (hy : h y = co 8 [vi tt, vr z]) (hz : h z = ci 32 GG) (ry : 15 ≤ y ∧ y ≤ 30) (rz : 15 ≤ z ∧ z ≤ 30) (yz : y ≠ z) (h33 : h 33 = co 5 [vi n, vr 34, vi m0, vr 35]) (h34 : h 34 = ci 80 T) (h35 : h 35 = ci 160 S) (hn : 0 ≤ n ∧ n ≤ 80) (hT : ∀ j, 0 ≤ j → j < 80 → 0 ≤ T j ∧ T j < 256) (h31 : h 31 = co 9 [vi sz, vr 32]) (h32 : h 32 = cl 65 TT) (hG : VG t G) (hC : CN t G) (KF : ∀ h' (i : Int) S', 0 ≤ i → TOK T n i → ta T n i.toNat < n → 0 ≤ tf T n (ta T n i.toNat) → kp h h' [33, 35] → h' 33 = co 5 [vi 0, vr 34, vi i, vr 35] → h' 35 = ci 160 S' → Q (some (vi (-1 - tf T n (ta T n i.toNat)))) h' 1000000) (K0 : ∀ h' (i : Int) e' t' G' fl, 0 ≤ i → TOK T n i → n ≤ ta T n i.toNat → FOL (ts T n S i.toNat) i.toNat 0 t G e' t' G' → e' ≤ 0 → ((e' < i ∧ fl = 1) ∨ (e' = i ∧ fl = 0)) → kp h h' (1 :: 2 :: 3 :: 4 :: 33 :: 35 :: scl) → SC h' → h' 1 = co 8 [vi t', vr 2] → h' 2 = ci 32 G' → h' 33 = co 5 [vi 0, vr 34, vi i, vr 35] → h' 35 = ci 160 (ts T n S i.toNat) → Q (some (vi e')) (tq h' 2 (uf (uf TT 0 fl) 1 t')) 1000000) (K1 : ∀ h' (i : Int) e' t' G' fl, 0 ≤ i → TOK T n i → n ≤ ta T n i.toNat → FOL (ts T n S i.toNat) i.toNat 0 t G e' t' G' → 0 < e' → ((e' < i ∧ fl = 1) ∨ (e' = i ∧ fl = 0)) → kp h h' (13 :: y :: z :: 1 :: 2 :: 3 :: 4 :: 33 :: 35 :: scl) → SC h' → h' 1 = co 8 [vi t', vr 2] → h' 2 = ci 32 G' → h' 33 = co 5 [vi 0, vr 34, vi i, vr 35] → h' 35 = ci 160 (ts T n S i.toNat) → h' 13 = co 3 [vi (if 8 < ps + 1 then 8 else ps + 1), vi ((pn + 1) % 8), vr 14] → h' y = co 8 [vi t, vr z] → h' z = ci 32 G → Q (some (vi e')) (tq h' 2 (uf (uf TT 0 fl) 1 t')) 1000000) : ma_Ct mX11_trail (d + 6) 0 0 [vr 0] h 1000000 Q := by
  have ht := hG.1
  refine ma_Ct.of (by decide +kernel) (Nat.le_of_ble_eq_true rfl) ?_
  refine ma_aload_n dX11_trail_0 rfl ?_
  refine ma_getf dX11_trail_1 fX11_47 (by first | exact hx | exact (ma_up_n (by decide)).trans ((ma_up_n (by decide)).trans ((ma_up_n (by decide)).trans hx)) | exact (ma_up_n (by decide)).trans ((ma_up_n (by decide)).trans hx) | exact (ma_up_n (by decide)).trans (ma_up_s _ _ _) | exact (ma_up_n (by decide)).trans ((ma_up_n (by decide)).trans ((ma_up_n (by decide)).trans h3)) | exact (ma_up_n (by decide)).trans ((ma_up_n (by decide)).trans ((ma_up_n (by decide)).trans h1)) | exact h33 | exact (ma_up_n (by decide)).trans ((ma_up_n (by decide)).trans ((ma_up_n (by decide)).trans ((ma_up_n (by decide)).trans ((ma_up_n (by decide)).trans hx)))) | exact (ma_up_n (by decide)).trans ((ma_up_n (by decide)).trans ((ma_up_n (by decide)).trans ((ma_up_n (by decide)).trans ((ma_up_n (by decide)).trans h1))))) (by rfl) ?_
  refine ma_cV [] dX11_trail_4 wX5_readTrail lX11_253 iX5_readTrail sX5_readTrail rfl (by first | exact hx | exact (ma_up_n (by decide)).trans ((ma_up_n (by decide)).trans ((ma_up_n (by decide)).trans hx)) | exact (ma_up_n (by decide)).trans ((ma_up_n (by decide)).trans hx) | exact (ma_up_n (by decide)).trans (ma_up_s _ _ _) | exact (ma_up_n (by decide)).trans ((ma_up_n (by decide)).trans ((ma_up_n (by decide)).trans h3)) | exact (ma_up_n (by decide)).trans ((ma_up_n (by decide)).trans ((ma_up_n (by decide)).trans h1)) | exact h33 | exact (ma_up_n (by decide)).trans ((ma_up_n (by decide)).trans ((ma_up_n (by decide)).trans ((ma_up_n (by decide)).trans ((ma_up_n (by decide)).trans hx)))) | exact (ma_up_n (by decide)).trans ((ma_up_n (by decide)).trans ((ma_up_n (by decide)).trans ((ma_up_n (by decide)).trans ((ma_up_n (by decide)).trans h1))))) (Nat.le_of_ble_eq_true rfl) ?_
  refine c_X5_readTrail h33 h34 h35 hn hT (fun i S' i0 ok t1 t2 => ?_) (fun i i0 i1 ok t1 => ?_)
  · -- i
    have tb := tf_in hn hT t1 t2
    refine ma_istore_nN dX11_trail_7 (by decide) rfl ?_
    refine ma_aload_n dX11_trail_8 rfl ?_
    refine ma_getf dX11_trail_9 fX11_47 (by first | exact hx | exact (ma_up_n (by decide)).trans ((ma_up_n (by decide)).trans ((ma_up_n (by decide)).trans hx)) | exact (ma_up_n (by decide)).trans ((ma_up_n (by decide)).trans hx) | exact (ma_up_n (by decide)).trans (ma_up_s _ _ _) | exact (ma_up_n (by decide)).trans ((ma_up_n (by decide)).trans ((ma_up_n (by decide)).trans h3)) | exact (ma_up_n (by decide)).trans ((ma_up_n (by decide)).trans ((ma_up_n (by decide)).trans h1)) | exact h33 | exact (ma_up_n (by decide)).trans ((ma_up_n (by decide)).trans ((ma_up_n (by decide)).trans ((ma_up_n (by decide)).trans ((ma_up_n (by decide)).trans hx)))) | exact (ma_up_n (by decide)).trans ((ma_up_n (by decide)).trans ((ma_up_n (by decide)).trans ((ma_up_n (by decide)).trans ((ma_up_n (by decide)).trans h1))))) (by rfl) ?_
    refine ma_iconst dX11_trail_12 ?_
    refine ma_cV [_] dX11_trail_13 wX5_cut lX11_101 iX5_cut sX5_cut rfl (by first | exact hx | exact (ma_up_n (by decide)).trans ((ma_up_n (by decide)).trans ((ma_up_n (by decide)).trans hx)) | exact (ma_up_n (by decide)).trans ((ma_up_n (by decide)).trans hx) | exact (ma_up_n (by decide)).trans (ma_up_s _ _ _) | exact (ma_up_n (by decide)).trans ((ma_up_n (by decide)).trans ((ma_up_n (by decide)).trans h3)) | exact (ma_up_n (by decide)).trans ((ma_up_n (by decide)).trans ((ma_up_n (by decide)).trans h1)) | exact h33 | exact (ma_up_n (by decide)).trans ((ma_up_n (by decide)).trans ((ma_up_n (by decide)).trans ((ma_up_n (by decide)).trans ((ma_up_n (by decide)).trans hx)))) | exact (ma_up_n (by decide)).trans ((ma_up_n (by decide)).trans ((ma_up_n (by decide)).trans ((ma_up_n (by decide)).trans ((ma_up_n (by decide)).trans h1))))) (Nat.le_of_ble_eq_true rfl) ?_
    refine c_X5_cut ((ma_up_n (by decide)).trans (ma_up_s _ _ _)) hn (by unfold rg; decide) (fun z => absurd ⟨by decide, by omega⟩ z) (fun z0 => ?_)
    refine ma_pop dX11_trail_16 rfl ?_
    refine ma_iload_n dX11_trail_17 rfl ?_
    refine ma_rif_ge 23 dX11_trail_18 rfl (by constructor <;> omega) (fun c18 => ?_) (fun c18 => ?_)
    · -- 23
      refine ma_aload_n dX11_trail_23 rfl ?_
      refine ma_getf dX11_trail_24 fX11_16 (by first | exact hx | exact (ma_up_n (by decide)).trans ((ma_up_n (by decide)).trans ((ma_up_n (by decide)).trans hx)) | exact (ma_up_n (by decide)).trans ((ma_up_n (by decide)).trans hx) | exact (ma_up_n (by decide)).trans (ma_up_s _ _ _) | exact (ma_up_n (by decide)).trans ((ma_up_n (by decide)).trans ((ma_up_n (by decide)).trans h3)) | exact (ma_up_n (by decide)).trans ((ma_up_n (by decide)).trans ((ma_up_n (by decide)).trans h1)) | exact h33 | exact (ma_up_n (by decide)).trans ((ma_up_n (by decide)).trans ((ma_up_n (by decide)).trans ((ma_up_n (by decide)).trans ((ma_up_n (by decide)).trans hx)))) | exact (ma_up_n (by decide)).trans ((ma_up_n (by decide)).trans ((ma_up_n (by decide)).trans ((ma_up_n (by decide)).trans ((ma_up_n (by decide)).trans h1))))) (by rfl) ?_
      refine ma_aload_n dX11_trail_27 rfl ?_
      refine ma_getf dX11_trail_28 fX11_10 (by first | exact hx | exact (ma_up_n (by decide)).trans ((ma_up_n (by decide)).trans ((ma_up_n (by decide)).trans hx)) | exact (ma_up_n (by decide)).trans ((ma_up_n (by decide)).trans hx) | exact (ma_up_n (by decide)).trans (ma_up_s _ _ _) | exact (ma_up_n (by decide)).trans ((ma_up_n (by decide)).trans ((ma_up_n (by decide)).trans h3)) | exact (ma_up_n (by decide)).trans ((ma_up_n (by decide)).trans ((ma_up_n (by decide)).trans h1)) | exact h33 | exact (ma_up_n (by decide)).trans ((ma_up_n (by decide)).trans ((ma_up_n (by decide)).trans ((ma_up_n (by decide)).trans ((ma_up_n (by decide)).trans hx)))) | exact (ma_up_n (by decide)).trans ((ma_up_n (by decide)).trans ((ma_up_n (by decide)).trans ((ma_up_n (by decide)).trans ((ma_up_n (by decide)).trans h1))))) (by rfl) ?_
      refine ma_cV [_] dX11_trail_31 wX8_copy lX11_120 iX8_copy sX8_copy rfl (by first | exact hx | exact (ma_up_n (by decide)).trans ((ma_up_n (by decide)).trans ((ma_up_n (by decide)).trans hx)) | exact (ma_up_n (by decide)).trans ((ma_up_n (by decide)).trans hx) | exact (ma_up_n (by decide)).trans (ma_up_s _ _ _) | exact (ma_up_n (by decide)).trans ((ma_up_n (by decide)).trans ((ma_up_n (by decide)).trans h3)) | exact (ma_up_n (by decide)).trans ((ma_up_n (by decide)).trans ((ma_up_n (by decide)).trans h1)) | exact h33 | exact (ma_up_n (by decide)).trans ((ma_up_n (by decide)).trans ((ma_up_n (by decide)).trans ((ma_up_n (by decide)).trans ((ma_up_n (by decide)).trans hx)))) | exact (ma_up_n (by decide)).trans ((ma_up_n (by decide)).trans ((ma_up_n (by decide)).trans ((ma_up_n (by decide)).trans ((ma_up_n (by decide)).trans h1))))) (Nat.le_of_ble_eq_true rfl) ?_
      refine c_X8_copy ((ma_up_n (by decide)).trans ((ma_up_n (by decide)).trans ((ma_up_n (by decide)).trans h3))) ((ma_up_n (by decide)).trans ((ma_up_n (by decide)).trans ((ma_up_n (by decide)).trans h4))) ((ma_up_n (by decide)).trans ((ma_up_n (by decide)).trans ((ma_up_n (by decide)).trans h1))) ((ma_up_n (by decide)).trans ((ma_up_n (by decide)).trans ((ma_up_n (by decide)).trans h2))) (by decide) (by decide) (by decide) ?_
      refine ma_aload_n dX11_trail_34 rfl ?_
      refine ma_aload_n dX11_trail_35 rfl ?_
      refine ma_getf dX11_trail_36 fX11_10 (by first | exact hx | exact (ma_up_n (by decide)).trans ((ma_up_n (by decide)).trans ((ma_up_n (by decide)).trans hx)) | exact (ma_up_n (by decide)).trans ((ma_up_n (by decide)).trans hx) | exact (ma_up_n (by decide)).trans (ma_up_s _ _ _) | exact (ma_up_n (by decide)).trans ((ma_up_n (by decide)).trans ((ma_up_n (by decide)).trans h3)) | exact (ma_up_n (by decide)).trans ((ma_up_n (by decide)).trans ((ma_up_n (by decide)).trans h1)) | exact h33 | exact (ma_up_n (by decide)).trans ((ma_up_n (by decide)).trans ((ma_up_n (by decide)).trans ((ma_up_n (by decide)).trans ((ma_up_n (by decide)).trans hx)))) | exact (ma_up_n (by decide)).trans ((ma_up_n (by decide)).trans ((ma_up_n (by decide)).trans ((ma_up_n (by decide)).trans ((ma_up_n (by decide)).trans h1))))) (by rfl) ?_
      refine ma_cV [_] dX11_trail_39 wX11_follow lX11_256 iX11_follow sX11_follow rfl (by first | exact hx | exact (ma_up_n (by decide)).trans ((ma_up_n (by decide)).trans ((ma_up_n (by decide)).trans hx)) | exact (ma_up_n (by decide)).trans ((ma_up_n (by decide)).trans hx) | exact (ma_up_n (by decide)).trans (ma_up_s _ _ _) | exact (ma_up_n (by decide)).trans ((ma_up_n (by decide)).trans ((ma_up_n (by decide)).trans h3)) | exact (ma_up_n (by decide)).trans ((ma_up_n (by decide)).trans ((ma_up_n (by decide)).trans h1)) | exact h33 | exact (ma_up_n (by decide)).trans ((ma_up_n (by decide)).trans ((ma_up_n (by decide)).trans ((ma_up_n (by decide)).trans ((ma_up_n (by decide)).trans hx)))) | exact (ma_up_n (by decide)).trans ((ma_up_n (by decide)).trans ((ma_up_n (by decide)).trans ((ma_up_n (by decide)).trans ((ma_up_n (by decide)).trans h1))))) (Nat.le_of_ble_eq_true rfl) ?_
      exact absurd c18 (by omega)
    · -- 21
      refine ma_iload_n dX11_trail_21 rfl ?_
      exact ma_iret dX11_trail_22 rfl (KF _ i S' i0 ok t1 t2 (kp_up (by simp) (kp_up (by simp) (kp_up (by simp) (kp_rf _ _)))) (ma_up_s _ _ _) ((ma_up_n (by decide)).trans (ma_up_s _ _ _)))
  · -- k0
    refine ma_istore_nN dX11_trail_7 (by decide) rfl ?_
    refine ma_aload_n dX11_trail_8 rfl ?_
    refine ma_getf dX11_trail_9 fX11_47 (by first | exact hx | exact (ma_up_n (by decide)).trans ((ma_up_n (by decide)).trans ((ma_up_n (by decide)).trans hx)) | exact (ma_up_n (by decide)).trans ((ma_up_n (by decide)).trans hx) | exact (ma_up_n (by decide)).trans (ma_up_s _ _ _) | exact (ma_up_n (by decide)).trans ((ma_up_n (by decide)).trans ((ma_up_n (by decide)).trans h3)) | exact (ma_up_n (by decide)).trans ((ma_up_n (by decide)).trans ((ma_up_n (by decide)).trans h1)) | exact h33 | exact (ma_up_n (by decide)).trans ((ma_up_n (by decide)).trans ((ma_up_n (by decide)).trans ((ma_up_n (by decide)).trans ((ma_up_n (by decide)).trans hx)))) | exact (ma_up_n (by decide)).trans ((ma_up_n (by decide)).trans ((ma_up_n (by decide)).trans ((ma_up_n (by decide)).trans ((ma_up_n (by decide)).trans h1))))) (by rfl) ?_
    refine ma_iconst dX11_trail_12 ?_
    refine ma_cV [_] dX11_trail_13 wX5_cut lX11_101 iX5_cut sX5_cut rfl (by first | exact hx | exact (ma_up_n (by decide)).trans ((ma_up_n (by decide)).trans ((ma_up_n (by decide)).trans hx)) | exact (ma_up_n (by decide)).trans ((ma_up_n (by decide)).trans hx) | exact (ma_up_n (by decide)).trans (ma_up_s _ _ _) | exact (ma_up_n (by decide)).trans ((ma_up_n (by decide)).trans ((ma_up_n (by decide)).trans h3)) | exact (ma_up_n (by decide)).trans ((ma_up_n (by decide)).trans ((ma_up_n (by decide)).trans h1)) | exact h33 | exact (ma_up_n (by decide)).trans ((ma_up_n (by decide)).trans ((ma_up_n (by decide)).trans ((ma_up_n (by decide)).trans ((ma_up_n (by decide)).trans hx)))) | exact (ma_up_n (by decide)).trans ((ma_up_n (by decide)).trans ((ma_up_n (by decide)).trans ((ma_up_n (by decide)).trans ((ma_up_n (by decide)).trans h1))))) (Nat.le_of_ble_eq_true rfl) ?_
    refine c_X5_cut ((ma_up_n (by decide)).trans (ma_up_s _ _ _)) hn (by unfold rg; decide) (fun z => absurd ⟨by decide, by omega⟩ z) (fun z0 => ?_)
    refine ma_pop dX11_trail_16 rfl ?_
    refine ma_iload_n dX11_trail_17 rfl ?_
    refine ma_rif_ge 23 dX11_trail_18 rfl (by decide) (fun c18 => ?_) (fun c18 => absurd c18 (by decide))
    refine ma_aload_n dX11_trail_23 rfl ?_
    refine ma_getf dX11_trail_24 fX11_16 (by first | exact hx | exact (ma_up_n (by decide)).trans ((ma_up_n (by decide)).trans ((ma_up_n (by decide)).trans hx)) | exact (ma_up_n (by decide)).trans ((ma_up_n (by decide)).trans hx) | exact (ma_up_n (by decide)).trans (ma_up_s _ _ _) | exact (ma_up_n (by decide)).trans ((ma_up_n (by decide)).trans ((ma_up_n (by decide)).trans h3)) | exact (ma_up_n (by decide)).trans ((ma_up_n (by decide)).trans ((ma_up_n (by decide)).trans h1)) | exact h33 | exact (ma_up_n (by decide)).trans ((ma_up_n (by decide)).trans ((ma_up_n (by decide)).trans ((ma_up_n (by decide)).trans ((ma_up_n (by decide)).trans hx)))) | exact (ma_up_n (by decide)).trans ((ma_up_n (by decide)).trans ((ma_up_n (by decide)).trans ((ma_up_n (by decide)).trans ((ma_up_n (by decide)).trans h1))))) (by rfl) ?_
    refine ma_aload_n dX11_trail_27 rfl ?_
    refine ma_getf dX11_trail_28 fX11_10 (by first | exact hx | exact (ma_up_n (by decide)).trans ((ma_up_n (by decide)).trans ((ma_up_n (by decide)).trans hx)) | exact (ma_up_n (by decide)).trans ((ma_up_n (by decide)).trans hx) | exact (ma_up_n (by decide)).trans (ma_up_s _ _ _) | exact (ma_up_n (by decide)).trans ((ma_up_n (by decide)).trans ((ma_up_n (by decide)).trans h3)) | exact (ma_up_n (by decide)).trans ((ma_up_n (by decide)).trans ((ma_up_n (by decide)).trans h1)) | exact h33 | exact (ma_up_n (by decide)).trans ((ma_up_n (by decide)).trans ((ma_up_n (by decide)).trans ((ma_up_n (by decide)).trans ((ma_up_n (by decide)).trans hx)))) | exact (ma_up_n (by decide)).trans ((ma_up_n (by decide)).trans ((ma_up_n (by decide)).trans ((ma_up_n (by decide)).trans ((ma_up_n (by decide)).trans h1))))) (by rfl) ?_
    refine ma_cV [_] dX11_trail_31 wX8_copy lX11_120 iX8_copy sX8_copy rfl (by first | exact hx | exact (ma_up_n (by decide)).trans ((ma_up_n (by decide)).trans ((ma_up_n (by decide)).trans hx)) | exact (ma_up_n (by decide)).trans ((ma_up_n (by decide)).trans hx) | exact (ma_up_n (by decide)).trans (ma_up_s _ _ _) | exact (ma_up_n (by decide)).trans ((ma_up_n (by decide)).trans ((ma_up_n (by decide)).trans h3)) | exact (ma_up_n (by decide)).trans ((ma_up_n (by decide)).trans ((ma_up_n (by decide)).trans h1)) | exact h33 | exact (ma_up_n (by decide)).trans ((ma_up_n (by decide)).trans ((ma_up_n (by decide)).trans ((ma_up_n (by decide)).trans ((ma_up_n (by decide)).trans hx)))) | exact (ma_up_n (by decide)).trans ((ma_up_n (by decide)).trans ((ma_up_n (by decide)).trans ((ma_up_n (by decide)).trans ((ma_up_n (by decide)).trans h1))))) (Nat.le_of_ble_eq_true rfl) ?_
    refine c_X8_copy ((ma_up_n (by decide)).trans ((ma_up_n (by decide)).trans ((ma_up_n (by decide)).trans h3))) ((ma_up_n (by decide)).trans ((ma_up_n (by decide)).trans ((ma_up_n (by decide)).trans h4))) ((ma_up_n (by decide)).trans ((ma_up_n (by decide)).trans ((ma_up_n (by decide)).trans h1))) ((ma_up_n (by decide)).trans ((ma_up_n (by decide)).trans ((ma_up_n (by decide)).trans h2))) (by decide) (by decide) (by decide) ?_
    refine ma_aload_n dX11_trail_34 rfl ?_
    refine ma_aload_n dX11_trail_35 rfl ?_
    refine ma_getf dX11_trail_36 fX11_10 (by first | exact hx | exact (ma_up_n (by decide)).trans ((ma_up_n (by decide)).trans ((ma_up_n (by decide)).trans hx)) | exact (ma_up_n (by decide)).trans ((ma_up_n (by decide)).trans hx) | exact (ma_up_n (by decide)).trans (ma_up_s _ _ _) | exact (ma_up_n (by decide)).trans ((ma_up_n (by decide)).trans ((ma_up_n (by decide)).trans h3)) | exact (ma_up_n (by decide)).trans ((ma_up_n (by decide)).trans ((ma_up_n (by decide)).trans h1)) | exact h33 | exact (ma_up_n (by decide)).trans ((ma_up_n (by decide)).trans ((ma_up_n (by decide)).trans ((ma_up_n (by decide)).trans ((ma_up_n (by decide)).trans hx)))) | exact (ma_up_n (by decide)).trans ((ma_up_n (by decide)).trans ((ma_up_n (by decide)).trans ((ma_up_n (by decide)).trans ((ma_up_n (by decide)).trans h1))))) (by rfl) ?_
    refine ma_cV [_] dX11_trail_39 wX11_follow lX11_256 iX11_follow sX11_follow rfl (by first | exact hx | exact (ma_up_n (by decide)).trans ((ma_up_n (by decide)).trans ((ma_up_n (by decide)).trans hx)) | exact (ma_up_n (by decide)).trans ((ma_up_n (by decide)).trans hx) | exact (ma_up_n (by decide)).trans (ma_up_s _ _ _) | exact (ma_up_n (by decide)).trans ((ma_up_n (by decide)).trans ((ma_up_n (by decide)).trans h3)) | exact (ma_up_n (by decide)).trans ((ma_up_n (by decide)).trans ((ma_up_n (by decide)).trans h1)) | exact h33 | exact (ma_up_n (by decide)).trans ((ma_up_n (by decide)).trans ((ma_up_n (by decide)).trans ((ma_up_n (by decide)).trans ((ma_up_n (by decide)).trans hx)))) | exact (ma_up_n (by decide)).trans ((ma_up_n (by decide)).trans ((ma_up_n (by decide)).trans ((ma_up_n (by decide)).trans ((ma_up_n (by decide)).trans h1))))) (Nat.le_of_ble_eq_true rfl) ?_
    refine c_X11_follow (b := 1) (g := 2) (n := i) (S := ts T n S i.toNat) (by decide) (by decide) (by decide) ⟨i0, i1⟩ (ts_v i0 ok) ((ma_up_n (by decide)).trans ((ma_up_n (by decide)).trans ((ma_up_n (by decide)).trans ((ma_up_n (by decide)).trans ((ma_up_n (by decide)).trans hx))))) ((ma_up_n (by decide)).trans ((ma_up_n (by decide)).trans (ma_up_s _ _ _))) ((ma_up_n (by decide)).trans ((ma_up_n (by decide)).trans ((ma_up_n (by decide)).trans (ma_up_s _ _ _)))) (sc_up (by decide) (sc_up (by decide) (sc_up (by decide) (sc_up (by decide) (sc_up (by decide) hS))))) ((ma_up_n (by decide)).trans ((ma_up_n (by decide)).trans ((ma_up_n (by decide)).trans ((ma_up_n (by decide)).trans ((ma_up_n (by decide)).trans h1))))) ((ma_up_n (by decide)).trans ((ma_up_n (by decide)).trans ((ma_up_n (by decide)).trans ((ma_up_n (by decide)).trans ((ma_up_n (by decide)).trans h2))))) hG hC (fun h' e' t' G' hf kk c1 c2 c3 => ?_)
    have kk0 : kp h (ma_up (ma_up (ma_up (ma_up (ma_up h 33 (co 5 [vi n, vr 34, vi i, vr 35])) 35 (ci 160 (ts T n S i.toNat))) 33 (co 5 [vi 0, vr 34, vi i, vr 35])) 3 (co 8 [vi t, vr 4])) 4 (ci 32 G)) (1 :: 2 :: 3 :: 4 :: 33 :: 35 :: scl) := kp_up (by simp) (kp_up (by simp) (kp_up (by simp) (kp_up (by simp) (kp_up (by simp) (kp_rf _ _)))))
    have e0 : h' 0 = co 11 (xo q0) := (kk 0 (by decide)).trans ((ma_up_n (by decide)).trans ((ma_up_n (by decide)).trans ((ma_up_n (by decide)).trans ((ma_up_n (by decide)).trans ((ma_up_n (by decide)).trans hx)))))
    have e31 : h' 31 = co 9 [vi sz, vr 32] := (kk 31 (by decide)).trans ((ma_up_n (by decide)).trans ((ma_up_n (by decide)).trans ((ma_up_n (by decide)).trans ((ma_up_n (by decide)).trans ((ma_up_n (by decide)).trans h31)))))
    have e32 : h' 32 = cl 65 TT := (kk 32 (by decide)).trans ((ma_up_n (by decide)).trans ((ma_up_n (by decide)).trans ((ma_up_n (by decide)).trans ((ma_up_n (by decide)).trans ((ma_up_n (by decide)).trans h32)))))
    have e33 : h' 33 = co 5 [vi 0, vr 34, vi i, vr 35] := (kk 33 (by decide)).trans ((ma_up_n (by decide)).trans ((ma_up_n (by decide)).trans (ma_up_s _ _ _)))
    have e35 : h' 35 = ci 160 (ts T n S i.toNat) := (kk 35 (by decide)).trans ((ma_up_n (by decide)).trans ((ma_up_n (by decide)).trans ((ma_up_n (by decide)).trans (ma_up_s _ _ _))))
    have e3 : h' 3 = co 8 [vi t, vr 4] := (kk 3 (by decide)).trans ((ma_up_n (by decide)).trans (ma_up_s _ _ _))
    have e4 : h' 4 = ci 32 G := (kk 4 (by decide)).trans (ma_up_s _ _ _)
    have kkT : kp h h' (1 :: 2 :: 3 :: 4 :: 33 :: 35 :: scl) := kp_tr kk0 (kp_mo (by simp) kk)
    have fo := fol_ok _ _ hG hC hf
    have ft := fo.1.1
    have eb : 0 ≤ e' ∧ e' ≤ i ∧ i ≤ 40 := by omega
    refine ma_istore_nN dX11_trail_42 (by decide) rfl ?_
    refine ma_iload_n dX11_trail_43 rfl ?_
    refine ma_rif_le 58 dX11_trail_44 rfl (by constructor <;> omega) (fun c44 => ?_) (fun c44 => ?_)
    · -- 58
      rw [tq_of e31 e32]
      exact l_tl58 e0 c2 e33 ft eb (fun fl hfl => K0 h' i e' t' G' fl i0 ok t1 hf (by omega) hfl kkT c1 c2 c3 e33 e35)
    · -- 47
      refine ma_aload_n dX11_trail_47 rfl ?_
      refine ma_getf dX11_trail_48 fX11_33 (by first | assumption | exact (kkT 13 (by decide)).trans hp) (by rfl) ?_
      refine ma_aload_n dX11_trail_51 rfl ?_
      refine ma_getf dX11_trail_52 fX11_16 (by first | assumption | exact (kkT 13 (by decide)).trans hp) (by rfl) ?_
      refine ma_cV [_] dX11_trail_55 wX3_push lX11_113 iX3_push sX3_push rfl (by first | assumption | exact (kkT 13 (by decide)).trans hp) (Nat.le_of_ble_eq_true rfl) ?_
      refine c_X3_push ((kkT 13 (by decide)).trans hp) ((kkT 14 (by decide)).trans hw) hpn hps hO ((kkT y (by simp; omega)).trans hy) ((kkT z (by simp; omega)).trans hz) e3 e4 yz (by omega) (by omega) (by omega) (by omega) ?_
      rw [tq_of (h := (ma_up (ma_up (ma_up h' y (co 8 [vi t, vr z])) z (ci 32 G)) 13 (co 3 [vi (if 8 < ps + 1 then 8 else ps + 1), vi ((pn + 1) % 8), vr 14]))) ((ma_up_n (by decide)).trans ((ma_up_n (by omega)).trans ((ma_up_n (by omega)).trans e31))) ((ma_up_n (by decide)).trans ((ma_up_n (by omega)).trans ((ma_up_n (by omega)).trans e32)))]
      exact l_tl58 ((ma_up_n (by decide)).trans ((ma_up_n (by omega)).trans ((ma_up_n (by omega)).trans e0))) ((ma_up_n (by decide)).trans ((ma_up_n (by omega)).trans ((ma_up_n (by omega)).trans c2))) ((ma_up_n (by decide)).trans ((ma_up_n (by omega)).trans ((ma_up_n (by omega)).trans e33))) ft eb (fun fl hfl => K1 (ma_up (ma_up (ma_up h' y (co 8 [vi t, vr z])) z (ci 32 G)) 13 (co 3 [vi (if 8 < ps + 1 then 8 else ps + 1), vi ((pn + 1) % 8), vr 14])) i e' t' G' fl i0 ok t1 hf (by omega) hfl (kp_up (by simp) (kp_up (by simp) (kp_up (by simp) (kp_mo (fun x hx => by simp at hx ⊢; omega) kkT)))) (sc_up (by decide) (sc_up (by omega) (sc_up (by omega) c1))) ((ma_up_n (by decide)).trans ((ma_up_n (by omega)).trans ((ma_up_n (by omega)).trans c2))) ((ma_up_n (by decide)).trans ((ma_up_n (by omega)).trans ((ma_up_n (by omega)).trans c3))) ((ma_up_n (by decide)).trans ((ma_up_n (by omega)).trans ((ma_up_n (by omega)).trans e33))) ((ma_up_n (by decide)).trans ((ma_up_n (by omega)).trans ((ma_up_n (by omega)).trans e35))) (ma_up_s _ _ _) ((ma_up_n (by omega)).trans ((ma_up_n (by omega)).trans (ma_up_s _ _ _))) ((ma_up_n (by omega)).trans (ma_up_s _ _ _)))
