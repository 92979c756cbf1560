theorem mv_ss {t : Int} {G : Int → Int} {a : Int} {X : Int → Prop} {nw : Int → Int} {s t' : Int} {H T C go gl : Int → Int} {gm : Int} {cl : Int → Int} {cm : Int} {la : Int → Int} {e : Int} {ix jn nu M Sg : Int → Int} {Mi : Int → Int} (hcf : CFG t G a X nw s t' H T C go gl gm cl cm la e ix jn nu M Sg) (hi : MIV X nw s jn Mi)  {F : Int} (F0 : 0 ≤ F) (F1 : F < 4 * t) (hF : ¬ gS G a X (F / 4)) (g : 0 ≤ G F) (hF' : ¬ gS G a X (G F / 32)) : mval G H T M Sg F = 24 * sty (gS G a X) (G F / 32) + G F % 32 := by
  obtain ⟨p0, p1, p2, p3, p4, p5, p6, p7, p8⟩ := pt_pt hcf.1 F0 F1 g
  obtain ⟨-, -, -, -, s5, -⟩ := st_F hcf F0 F1 hF
  obtain ⟨r1, r2, r3, r4, r5, -⟩ := st_F hcf p0 p1 (by rw [p2]; exact hF')
  unfold mval mq
  rw [s5, r5, r4, r1, p2, iv_0, (af_ia p4 p5).2.2.1, (af_ia p4 p5).2.2.2]
theorem up95 {h : ma_H} {A B C A' : ma_C} : ma_up (ma_up (ma_up (ma_up h 95 A) 84 B) 96 C) 95 A' = ma_up (ma_up (ma_up h 95 A') 84 B) 96 C := by
  rw [ma_up_cm _ _ _ (by decide : 96 ≠ 95), ma_up_cm _ _ _ (by decide : 84 ≠ 95), ma_up_up]
set_option maxHeartbeats 2000000 in
theorem l_move2 {h : ma_H} {b nx d : Nat} {MV V : Int → Int} {Q : Option ma_V → ma_H → Nat → Prop} {I : Nat → Int} {x3 x4 x5 : Option ma_V} (hM : h 73 = co 12 (mo I)) (KO : ∀ TH x2, (∀ j, 0 ≤ j → j < 33 → TH j = -1) → ma_J none mX12_move (d + 3) 0 0 21 [some (vr 73), some (vr b), x2, x3, x4, x5] [] (ma_up (ma_up (ma_up h 95 (ci 8 MV)) 84 (ci 4 V)) 96 (ci 33 TH)) nx Q) :
    ∀ (m : Nat) (k : Int) (TH : Int → Int), (0 ≤ k) → (k ≤ 33) → (33 - k < m) → (∀ j, 0 ≤ j → j < k → TH j = -1) → ma_J none mX12_move (d + 3) 0 0 2 [some (vr 73), some (vr b), some (vi k), x3, x4, x5] [] (ma_up (ma_up (ma_up h 95 (ci 8 MV)) 84 (ci 4 V)) 96 (ci 33 TH)) nx Q := by
  intro m
  induction m with
  | zero => intro k TH k0 k1 k2 hk; omega
  | succ m ih =>
    intro k TH k0 k1 k2 hk
    refine ma_iload_n dX12_move_2 rfl ?_
    refine ma_bipush dX12_move_3 ?_
    refine ma_rcmp_ge 21 dX12_move_5 rfl (by constructor <;> omega) (by constructor <;> omega) (fun c5 => ?_) (fun c5 => ?_)
    · -- 21
      exact KO TH _ (fun j j0 j1 => hk j j0 (by omega))
    · -- 8
      refine ma_aload_n dX12_move_8 rfl ?_
      refine ma_getf dX12_move_9 fX12_78 (by first | exact ma_up_s _ _ _ | exact (ma_up_n (by first | decide | omega)).trans (ma_up_s _ _ _) | exact (ma_up_n (by first | decide | omega)).trans ((ma_up_n (by first | decide | omega)).trans (ma_up_s _ _ _)) | exact (ma_up_n (by first | decide | omega)).trans ((ma_up_n (by first | decide | omega)).trans ((ma_up_n (by first | decide | omega)).trans (by assumption)))) (by rfl) ?_
      refine ma_iload_n dX12_move_12 rfl ?_
      refine ma_iconst dX12_move_13 ?_
      refine ma_iast dX12_move_14 (by first | exact ma_up_s _ _ _ | exact (ma_up_n (by first | decide | omega)).trans (ma_up_s _ _ _) | exact (ma_up_n (by first | decide | omega)).trans ((ma_up_n (by first | decide | omega)).trans (ma_up_s _ _ _)) | exact (ma_up_n (by first | decide | omega)).trans ((ma_up_n (by first | decide | omega)).trans ((ma_up_n (by first | decide | omega)).trans (by assumption)))) (by omega) (by omega) (by omega) ?_
      rw [ma_up_up]
      refine ma_iincN dX12_move_15 rfl (by decide) rfl ?_
      refine ma_goto 2 dX12_move_18 rfl ?_
      exact ih (k + 1) _ (by omega) (by omega) (by omega) (fun j j0 j1 => by
        by_cases z : j = k
        · rw [z, uf_s]
        · rw [uf_n z]; exact hk j j0 (by omega))
set_option maxHeartbeats 2000000 in
theorem l_move25 {h : ma_H} {b nx d : Nat} {Aa V TH : Int → Int} {Q : Option ma_V → ma_H → Nat → Prop} {I : Nat → Int} {x4 x5 : Option ma_V} {t : Int} {G : Int → Int} {a : Int} {X : Int → Prop} {nw : Int → Int} {s t' : Int} {H T C go gl : Int → Int} {gm : Int} {cl : Int → Int} {cm : Int} {la : Int → Int} {e : Int} {ix jn nu M Sg : Int → Int} (hcf : CFG t G a X nw s t' H T C go gl gm cl cm la e ix jn nu M Sg) (hM : h 73 = co 12 (mo I)) (h92 : h 92 = ci 4 go) (hb : h b = ci 33 Aa) (nb : b ≠ 84 ∧ b ≠ 96 ∧ b ≠ 95) (hgm : I 32 = gm) (hA : AG t G Aa) (KO : ∀ MV x3, (∀ n, 0 ≤ n → n < t → ¬ gS G a X n → MV n = sty (gS G a X) n) → ma_J none mX12_move (d + 3) 0 0 57 [some (vr 73), some (vr b), some (vi s), x3, x4, x5] [] (ma_up (ma_up (ma_up h 95 (ci 8 MV)) 84 (ci 4 V)) 96 (ci 33 TH)) nx Q) :
    ∀ (m : Nat) (tt : Int) (MV : Int → Int), (0 ≤ tt) → (tt ≤ t) → (t - tt < m) → (∀ n, 0 ≤ n → n < tt → ¬ gS G a X n → MV n = sty (gS G a X) n) → ma_J none mX12_move (d + 3) 0 0 25 [some (vr 73), some (vr b), some (vi (sty (gS G a X) tt)), some (vi tt), x4, x5] [] (ma_up (ma_up (ma_up h 95 (ci 8 MV)) 84 (ci 4 V)) 96 (ci 33 TH)) nx Q := by
  have q := cfg_s hcf
  intro m
  induction m with
  | zero => intro tt MV t0 t1 t2 hmv; omega
  | succ m ih =>
    intro tt MV t0 t1 t2 hmv
    have sb := sty_in (gS G a X) (i := tt) t0
    refine ma_iload_n dX12_move_25 rfl ?_
    refine ma_aload_n dX12_move_26 rfl ?_
    refine ma_iconst dX12_move_27 ?_
    refine ma_iald dX12_move_28 (by first | exact ma_up_s _ _ _ | exact (ma_up_n (by first | decide | omega)).trans (ma_up_s _ _ _) | exact (ma_up_n (by first | decide | omega)).trans ((ma_up_n (by first | decide | omega)).trans (ma_up_s _ _ _)) | exact (ma_up_n (by first | decide | omega)).trans ((ma_up_n (by first | decide | omega)).trans ((ma_up_n (by first | decide | omega)).trans (by assumption)))) (by omega) (by omega) (by omega) ?_
    rw [hA.1]
    refine ma_rcmp_ge 57 dX12_move_29 rfl (by constructor <;> omega) (by constructor <;> omega) (fun c29 => ?_) (fun c29 => ?_)
    · -- 57
      have e4 : tt = t := by omega
      rw [e4, show sty (gS G a X) t = s from q.2.2.2.2.2.2.2.2.1.symm]
      exact KO MV _ (fun n n0 n1 hn => hmv n n0 (by omega) hn)
    · -- 32
      refine ma_aload_n dX12_move_32 rfl ?_
      refine ma_iload_n dX12_move_33 rfl ?_
      refine ma_cV [_] dX12_move_34 wX12_goingAs lX12_387 iX12_goingAs sX12_goingAs rfl (by first | exact ma_up_s _ _ _ | exact (ma_up_n (by first | decide | omega)).trans (ma_up_s _ _ _) | exact (ma_up_n (by first | decide | omega)).trans ((ma_up_n (by first | decide | omega)).trans (ma_up_s _ _ _)) | exact (ma_up_n (by first | decide | omega)).trans ((ma_up_n (by first | decide | omega)).trans ((ma_up_n (by first | decide | omega)).trans (by assumption)))) (Nat.le_of_ble_eq_true rfl) ?_
      refine c_X12_goingAs ((ma_up_n (by first | decide | omega)).trans ((ma_up_n (by first | decide | omega)).trans ((ma_up_n (by first | decide | omega)).trans hM))) ((ma_up_n (by first | decide | omega)).trans ((ma_up_n (by first | decide | omega)).trans ((ma_up_n (by first | decide | omega)).trans h92))) hgm (by omega) (fun i i0 i1 => by have := go_S hcf i0 i1; omega) (by unfold rg; omega) (fun i' b0 b1 b2 => ?_) (fun bn => ?_)
      · -- goes
        refine ma_iconst dX12_move_37 ?_
        refine ma_rcmp_ne 51 dX12_move_38 rfl (by constructor <;> omega) (by decide) (fun c38 => ?_) (fun c38 => absurd c38 (by omega))
        refine ma_iincN dX12_move_51 rfl (by decide) rfl ?_
        refine ma_goto 25 dX12_move_54 rfl ?_
        rw [← sty_s (S := gS G a X) t0 (by rw [← b2]; exact (go_S hcf b0 b1).1)]
        exact ih (tt + 1) MV (by omega) (by omega) (by omega) (fun n n0 n1 hn => hmv n n0 (by
          rcases Int.lt_or_eq_of_le (show n ≤ tt by omega) with z | z
          · exact z
          · exact absurd (by rw [z, ← b2]; exact (go_S hcf b0 b1).1) hn) hn)
      · -- stays
        refine ma_iconst dX12_move_37 ?_
        refine ma_rcmp_ne 51 dX12_move_38 rfl (by decide) (by decide) (fun c38 => absurd c38 (by decide)) (fun c38 => ?_)
        refine ma_aload_n dX12_move_41 rfl ?_
        refine ma_getf dX12_move_42 fX12_75 (by first | exact ma_up_s _ _ _ | exact (ma_up_n (by first | decide | omega)).trans (ma_up_s _ _ _) | exact (ma_up_n (by first | decide | omega)).trans ((ma_up_n (by first | decide | omega)).trans (ma_up_s _ _ _)) | exact (ma_up_n (by first | decide | omega)).trans ((ma_up_n (by first | decide | omega)).trans ((ma_up_n (by first | decide | omega)).trans (by assumption)))) (by rfl) ?_
        refine ma_iload_n dX12_move_45 rfl ?_
        refine ma_iload_n dX12_move_46 rfl ?_
        refine ma_iincN dX12_move_47 rfl (by decide) rfl ?_
        refine ma_iast dX12_move_50 (by first | exact ma_up_s _ _ _ | exact (ma_up_n (by first | decide | omega)).trans (ma_up_s _ _ _) | exact (ma_up_n (by first | decide | omega)).trans ((ma_up_n (by first | decide | omega)).trans (ma_up_s _ _ _)) | exact (ma_up_n (by first | decide | omega)).trans ((ma_up_n (by first | decide | omega)).trans ((ma_up_n (by first | decide | omega)).trans (by assumption)))) (by omega) (by omega) (by omega) ?_
        rw [up95]
        refine ma_iincN dX12_move_51 rfl (by decide) rfl ?_
        refine ma_goto 25 dX12_move_54 rfl ?_
        rw [← sty_n (S := gS G a X) t0 (fun z => by obtain ⟨i, i0, i1, e⟩ := go_ex hcf z; exact bn i i0 i1 e)]
        exact ih (tt + 1) _ (by omega) (by omega) (by omega) (fun n n0 n1 hn => by
          by_cases z : n = tt
          · rw [z, uf_s]
          · rw [uf_n z]; exact hmv n n0 (by omega) hn)
set_option maxHeartbeats 2000000 in
theorem l_move93 {h : ma_H} {b nx d : Nat} {pf cu Aa : Int → Int} {Q : Option ma_V → ma_H → Nat → Prop} {I : Nat → Int} {t : Int} {G : Int → Int} {a : Int} {X : Int → Prop} {nw : Int → Int} {s t' : Int} {H T C go gl : Int → Int} {gm : Int} {cl : Int → Int} {cm : Int} {la : Int → Int} {e : Int} {ix jn nu M Sg : Int → Int} {Mi : Int → Int} {tt : Int} {MV V : Int → Int} (hcf : CFG t G a X nw s t' H T C go gl gm cl cm la e ix jn nu M Sg) (hi : MIV X nw s jn Mi) (hcu : ∀ y, 0 ≤ y → y < 4 → ¬ X y → cu (jn y) = la y) (hM : h 73 = co 12 (mo I)) (h77 : h 77 = ci 64 pf) (hf : PB pf) (h92 : h 92 = ci 4 go) (h93 : h 93 = ci 16 gl) (h94 : h 94 = ci 16 cl) (hb : h b = ci 33 Aa) (nb : b ≠ 84 ∧ b ≠ 96 ∧ b ≠ 95) (hgm : I 32 = gm) (hcm : I 34 = cm) (hA : AG t G Aa) (hMV : ∀ n, 0 ≤ n → n < t → ¬ gS G a X n → MV n = sty (gS G a X) n) (t0 : 0 ≤ tt ∧ tt < t) (hst : ¬ gS G a X tt) (KO : ∀ TH x4 x5, TH 0 = t' → PT (CMd t' C M Mi Sg) TH (D1 t G a X H T M Sg (4 * (tt + 1))) → ma_J none mX12_move (d + 3) 0 0 167 [some (vr 73), some (vr b), some (vi s), some (vi tt), x4, x5] [] (ma_up (ma_up (ma_up h 95 (ci 8 MV)) 84 (ci 4 V)) 96 (ci 33 TH)) nx Q) :
    ∀ (m : Nat) (f : Int) (TH : Int → Int) (x5 : Option ma_V), (0 ≤ f) → (f ≤ 4) → (4 - f < m) → (TH 0 = t') → (PT (CMd t' C M Mi Sg) TH (D1 t G a X H T M Sg (4 * tt + f))) → ma_J none mX12_move (d + 3) 0 0 93 [some (vr 73), some (vr b), some (vi s), some (vi tt), some (vi f), x5] [] (ma_up (ma_up (ma_up h 95 (ci 8 MV)) 84 (ci 4 V)) 96 (ci 33 TH)) nx Q := by
  have q := cfg_s hcf
  intro m
  induction m with
  | zero => intro f TH x5 f0 f1 f2 h00 hP; omega
  | succ m ih =>
    intro f TH x5 f0 f1 f2 h00 hP
    refine ma_iload dX12_move_93 rfl ?_
    refine ma_iconst dX12_move_95 ?_
    refine ma_rcmp_ge 167 dX12_move_96 rfl (by constructor <;> omega) (by constructor <;> omega) (fun c96 => ?_) (fun c96 => ?_)
    · -- 167
      have e4 : f = 4 := by omega
      subst e4
      exact KO TH _ _ h00 (by rw [show 4 * (tt + 1) = 4 * tt + 4 by omega]; exact hP)
    · -- 99
      refine ma_aload_n dX12_move_99 rfl ?_
      refine ma_iload_n dX12_move_100 rfl ?_
      refine ma_iload dX12_move_101 rfl ?_
      refine ma_cS [_, _, _] dX12_move_103 wX12_glue lX12_150 tX12_glue (Nat.le_of_ble_eq_true rfl) ?_
      refine c_X12_glue ((ma_up_n (by first | decide | omega)).trans ((ma_up_n (by first | decide | omega)).trans ((ma_up_n (by first | decide | omega)).trans hb))) (by constructor <;> omega) (by constructor <;> omega) ?_
      rw [show 1 + 4 * tt + f = 1 + (4 * tt + f) by omega, hA.2 (4 * tt + f) (by omega) (by omega)]
      have hcn := cv_ne hcf.1 (k := 4 * tt + f) (by omega) (by omega)
      have hv : vc (G (4 * tt + f)) := by have := (vg_in hcf.1 (k := 4 * tt + f) (by omega) (by omega)).2.2; unfold vc; omega
      have hcv := (cv_lt hv hv).2.2
      have e4 : (4 * tt + f) / 4 = tt := by omega
      have e5 : (4 * tt + f) % 4 = f := by omega
      refine ma_istoreN dX12_move_106 (by decide) rfl ?_
      refine ma_iload dX12_move_108 rfl ?_
      refine ma_iconst dX12_move_110 ?_
      refine ma_rcmp_eq 161 dX12_move_111 rfl (by constructor <;> omega) (by decide) (fun c111 => ?_) (fun c111 => ?_)
      · -- 161
        refine ma_iincN dX12_move_161 rfl (by decide) rfl ?_
        refine ma_goto 93 dX12_move_164 rfl ?_
        exact ih (f + 1) TH _ (by omega) (by omega) (by omega) h00 (pt_mono hP (fun k hk => by
          obtain ⟨F, F0, F1, F2, F3, F4, F5, F6⟩ := hk
          rcases Int.lt_or_eq_of_le (show F ≤ 4 * tt + f by omega) with z | z
          · exact ⟨F, F0, z, F2, F3, F4, F5, F6⟩
          · exfalso; rw [z] at F3 F4 F5; have := hcn.mp c111; omega))
      · -- 114
        have g : 0 ≤ G (4 * tt + f) := by
          rcases Int.lt_or_le (G (4 * tt + f)) 0 with z | z
          · exact absurd (hcn.mpr z) c111
          · exact z
        have pp := pt_pt hcf.1 (k := 4 * tt + f) (by omega) (by omega) g
        have cp := cv_p g pp.2.2.2.2.2.1
        refine ma_aload_n dX12_move_114 rfl ?_
        refine ma_iload dX12_move_115 rfl ?_
        refine ma_bipush dX12_move_117 ?_
        refine ma_kdiv dX12_move_119 (by constructor <;> omega) (by constructor <;> omega) ?_
        rw [cp.2.1]
        refine ma_cV [_] dX12_move_120 wX12_goingAs lX12_387 iX12_goingAs sX12_goingAs rfl (by first | exact ma_up_s _ _ _ | exact (ma_up_n (by first | decide | omega)).trans (ma_up_s _ _ _) | exact (ma_up_n (by first | decide | omega)).trans ((ma_up_n (by first | decide | omega)).trans (ma_up_s _ _ _)) | exact (ma_up_n (by first | decide | omega)).trans ((ma_up_n (by first | decide | omega)).trans ((ma_up_n (by first | decide | omega)).trans (by assumption)))) (Nat.le_of_ble_eq_true rfl) ?_
        refine c_X12_goingAs ((ma_up_n (by first | decide | omega)).trans ((ma_up_n (by first | decide | omega)).trans ((ma_up_n (by first | decide | omega)).trans hM))) ((ma_up_n (by first | decide | omega)).trans ((ma_up_n (by first | decide | omega)).trans ((ma_up_n (by first | decide | omega)).trans h92))) hgm (by omega) (fun i i0 i1 => by have := go_S hcf i0 i1; omega) (by unfold rg; omega) (fun i' b0 b1 b2 => ?_) (fun bn => ?_)
        · -- goes
          refine ma_iconst dX12_move_123 ?_
          refine ma_rcmp_ne 161 dX12_move_124 rfl (by constructor <;> omega) (by decide) (fun c124 => ?_) (fun c124 => absurd c124 (by omega))
          refine ma_iincN dX12_move_161 rfl (by decide) rfl ?_
          refine ma_goto 93 dX12_move_164 rfl ?_
          exact ih (f + 1) TH _ (by omega) (by omega) (by omega) h00 (pt_mono hP (fun k hk => by
            obtain ⟨F, F0, F1, F2, F3, F4, F5, F6⟩ := hk
            rcases Int.lt_or_eq_of_le (show F ≤ 4 * tt + f by omega) with z | z
            · exact ⟨F, F0, z, F2, F3, F4, F5, F6⟩
            · exfalso; rw [z] at F3 F4 F5; exact F5 (by rw [← b2]; exact (go_S hcf b0 b1).1)))
        · -- stays
          refine ma_iconst dX12_move_123 ?_
          refine ma_rcmp_ne 161 dX12_move_124 rfl (by decide) (by decide) (fun c124 => absurd c124 (by decide)) (fun c124 => ?_)
          refine ma_aload_n dX12_move_127 rfl ?_
          refine ma_getf dX12_move_128 fX12_78 (by first | exact ma_up_s _ _ _ | exact (ma_up_n (by first | decide | omega)).trans (ma_up_s _ _ _) | exact (ma_up_n (by first | decide | omega)).trans ((ma_up_n (by first | decide | omega)).trans (ma_up_s _ _ _)) | exact (ma_up_n (by first | decide | omega)).trans ((ma_up_n (by first | decide | omega)).trans ((ma_up_n (by first | decide | omega)).trans (by assumption)))) (by rfl) ?_
          refine ma_aload_n dX12_move_131 rfl ?_
          refine ma_getf dX12_move_132 fX12_75 (by first | exact ma_up_s _ _ _ | exact (ma_up_n (by first | decide | omega)).trans (ma_up_s _ _ _) | exact (ma_up_n (by first | decide | omega)).trans ((ma_up_n (by first | decide | omega)).trans (ma_up_s _ _ _)) | exact (ma_up_n (by first | decide | omega)).trans ((ma_up_n (by first | decide | omega)).trans ((ma_up_n (by first | decide | omega)).trans (by assumption)))) (by rfl) ?_
          refine ma_iload_n dX12_move_135 rfl ?_
          refine ma_iald dX12_move_136 (by first | exact ma_up_s _ _ _ | exact (ma_up_n (by first | decide | omega)).trans (ma_up_s _ _ _) | exact (ma_up_n (by first | decide | omega)).trans ((ma_up_n (by first | decide | omega)).trans (ma_up_s _ _ _)) | exact (ma_up_n (by first | decide | omega)).trans ((ma_up_n (by first | decide | omega)).trans ((ma_up_n (by first | decide | omega)).trans (by assumption)))) (by omega) (by omega) (by omega) ?_
          refine ma_iload dX12_move_137 rfl ?_
          refine ma_bipush dX12_move_139 ?_
          refine ma_aload_n dX12_move_141 rfl ?_
          refine ma_getf dX12_move_142 fX12_75 (by first | exact ma_up_s _ _ _ | exact (ma_up_n (by first | decide | omega)).trans (ma_up_s _ _ _) | exact (ma_up_n (by first | decide | omega)).trans ((ma_up_n (by first | decide | omega)).trans (ma_up_s _ _ _)) | exact (ma_up_n (by first | decide | omega)).trans ((ma_up_n (by first | decide | omega)).trans ((ma_up_n (by first | decide | omega)).trans (by assumption)))) (by rfl) ?_
          refine ma_iload dX12_move_145 rfl ?_
          refine ma_bipush dX12_move_147 ?_
          refine ma_kdiv dX12_move_149 (by constructor <;> omega) (by constructor <;> omega) ?_
          rw [cp.2.1]
          refine ma_iald dX12_move_150 (by first | exact ma_up_s _ _ _ | exact (ma_up_n (by first | decide | omega)).trans (ma_up_s _ _ _) | exact (ma_up_n (by first | decide | omega)).trans ((ma_up_n (by first | decide | omega)).trans (ma_up_s _ _ _)) | exact (ma_up_n (by first | decide | omega)).trans ((ma_up_n (by first | decide | omega)).trans ((ma_up_n (by first | decide | omega)).trans (by assumption)))) (by omega) (by omega) (by omega) ?_
          refine ma_imul dX12_move_151 ?_
          refine ma_iload dX12_move_152 rfl ?_
          refine ma_bipush dX12_move_154 ?_
          refine ma_kmod dX12_move_156 (by constructor <;> omega) (by constructor <;> omega) ?_
          rw [cp.2.2]
          refine ma_iadd dX12_move_157 ?_
          refine ma_cS [_, _, _, _] dX12_move_158 wX12_put lX12_138 tX12_put (Nat.le_of_ble_eq_true rfl) ?_
          have ns : ¬ gS G a X (G (4 * tt + f) / 32) := fun z => by obtain ⟨i, i0, i1, e⟩ := go_ex hcf z; exact bn i i0 i1 e
          have mv1 := hMV tt t0.1 t0.2 hst
          have mv2 := hMV (G (4 * tt + f) / 32) (by omega) (by omega) ns
          have st := st_F hcf (F := 4 * tt + f) (by omega) (by omega) (by rw [e4]; exact hst)
          rw [e4, e5] at st
          have stn := sty_in (gS G a X) (i := G (4 * tt + f) / 32) (by omega)
          have mqi := mq_in hcf hi (F := 4 * tt + f) (by omega) (by omega) st.2.1 g
          have tai := tau_in hcf hi (F := 4 * tt + f) (by omega) (by omega) st.2.1
          refine c_X12_put (ma_up_s _ _ _) (by constructor <;> omega) ⟨f0, by omega⟩ ?_
          rw [ma_up_up]
          refine ma_iincN dX12_move_161 rfl (by decide) rfl ?_
          refine ma_goto 93 dX12_move_164 rfl ?_
          refine ih (f + 1) _ _ (by omega) (by omega) (by omega) (by rw [uf_n (by omega)]; exact h00) ?_
          rw [show 1 + 4 * MV tt + f = 1 + mpos H T M Sg (4 * tt + f) by omega]
          refine pt_put hP tai.2.1.1 (by omega) mqi.2.2.2.1 ?_ (fun k hk => ?_)
          · rw [mqi.2.2.2.2, mv_ss hcf hi (by omega) (by omega) (by rw [e4]; exact hst) g ns, mv2]
          · obtain ⟨F, F0, F1, F2, F3, F4, F5, F6⟩ := hk
            rcases Int.lt_or_eq_of_le (show F ≤ 4 * tt + f by omega) with z | z
            · exact Or.inl ⟨F, F0, z, F2, F3, F4, F5, F6⟩
            · exact Or.inr (by rw [F6, z])
set_option maxHeartbeats 2000000 in
theorem l_move71 {h : ma_H} {b nx d : Nat} {pf cu Aa : Int → Int} {Q : Option ma_V → ma_H → Nat → Prop} {I : Nat → Int} {t : Int} {G : Int → Int} {a : Int} {X : Int → Prop} {nw : Int → Int} {s t' : Int} {H T C go gl : Int → Int} {gm : Int} {cl : Int → Int} {cm : Int} {la : Int → Int} {e : Int} {ix jn nu M Sg : Int → Int} {Mi : Int → Int} {MV V : Int → Int} (hcf : CFG t G a X nw s t' H T C go gl gm cl cm la e ix jn nu M Sg) (hi : MIV X nw s jn Mi) (hcu : ∀ y, 0 ≤ y → y < 4 → ¬ X y → cu (jn y) = la y) (hM : h 73 = co 12 (mo I)) (h77 : h 77 = ci 64 pf) (hf : PB pf) (h92 : h 92 = ci 4 go) (h93 : h 93 = ci 16 gl) (h94 : h 94 = ci 16 cl) (hb : h b = ci 33 Aa) (nb : b ≠ 84 ∧ b ≠ 96 ∧ b ≠ 95) (hgm : I 32 = gm) (hcm : I 34 = cm) (hA : AG t G Aa) (hMV : ∀ n, 0 ≤ n → n < t → ¬ gS G a X n → MV n = sty (gS G a X) n) (KO : ∀ TH x3 x4 x5, TH 0 = t' → PT (CMd t' C M Mi Sg) TH (D1 t G a X H T M Sg (4 * t)) → ma_J none mX12_move (d + 3) 0 0 173 [some (vr 73), some (vr b), some (vi s), x3, x4, x5] [] (ma_up (ma_up (ma_up h 95 (ci 8 MV)) 84 (ci 4 V)) 96 (ci 33 TH)) nx Q) :
    ∀ (m : Nat) (tt : Int) (TH : Int → Int) (x4 : Option ma_V) (x5 : Option ma_V), (0 ≤ tt) → (tt ≤ t) → (t - tt < m) → (TH 0 = t') → (PT (CMd t' C M Mi Sg) TH (D1 t G a X H T M Sg (4 * tt))) → ma_J none mX12_move (d + 3) 0 0 71 [some (vr 73), some (vr b), some (vi s), some (vi tt), x4, x5] [] (ma_up (ma_up (ma_up h 95 (ci 8 MV)) 84 (ci 4 V)) 96 (ci 33 TH)) nx Q := by
  have q := cfg_s hcf
  intro m
  induction m with
  | zero => intro tt TH x4 x5 t0 t1 t2 h00 hP; omega
  | succ m ih =>
    intro tt TH x4 x5 t0 t1 t2 h00 hP
    refine ma_iload_n dX12_move_71 rfl ?_
    refine ma_aload_n dX12_move_72 rfl ?_
    refine ma_iconst dX12_move_73 ?_
    refine ma_iald dX12_move_74 (by first | exact ma_up_s _ _ _ | exact (ma_up_n (by first | decide | omega)).trans (ma_up_s _ _ _) | exact (ma_up_n (by first | decide | omega)).trans ((ma_up_n (by first | decide | omega)).trans (ma_up_s _ _ _)) | exact (ma_up_n (by first | decide | omega)).trans ((ma_up_n (by first | decide | omega)).trans ((ma_up_n (by first | decide | omega)).trans (by assumption)))) (by omega) (by omega) (by omega) ?_
    rw [hA.1]
    refine ma_rcmp_ge 173 dX12_move_75 rfl (by constructor <;> omega) (by constructor <;> omega) (fun c75 => ?_) (fun c75 => ?_)
    · -- 173
      have e4 : tt = t := by omega
      rw [e4] at hP
      exact KO TH _ _ _ h00 hP
    · -- 78
      refine ma_aload_n dX12_move_78 rfl ?_
      refine ma_iload_n dX12_move_79 rfl ?_
      refine ma_cV [_] dX12_move_80 wX12_goingAs lX12_387 iX12_goingAs sX12_goingAs rfl (by first | exact ma_up_s _ _ _ | exact (ma_up_n (by first | decide | omega)).trans (ma_up_s _ _ _) | exact (ma_up_n (by first | decide | omega)).trans ((ma_up_n (by first | decide | omega)).trans (ma_up_s _ _ _)) | exact (ma_up_n (by first | decide | omega)).trans ((ma_up_n (by first | decide | omega)).trans ((ma_up_n (by first | decide | omega)).trans (by assumption)))) (Nat.le_of_ble_eq_true rfl) ?_
      refine c_X12_goingAs ((ma_up_n (by first | decide | omega)).trans ((ma_up_n (by first | decide | omega)).trans ((ma_up_n (by first | decide | omega)).trans hM))) ((ma_up_n (by first | decide | omega)).trans ((ma_up_n (by first | decide | omega)).trans ((ma_up_n (by first | decide | omega)).trans h92))) hgm (by omega) (fun i i0 i1 => by have := go_S hcf i0 i1; omega) (by unfold rg; omega) (fun i' b0 b1 b2 => ?_) (fun bn => ?_)
      · -- goes
        refine ma_iconst dX12_move_83 ?_
        refine ma_rcmp_eq 90 dX12_move_84 rfl (by constructor <;> omega) (by decide) (fun c84 => absurd c84 (by omega)) (fun c84 => ?_)
        refine ma_goto 167 dX12_move_87 rfl ?_
        refine ma_iincN dX12_move_167 rfl (by decide) rfl ?_
        refine ma_goto 71 dX12_move_170 rfl ?_
        exact ih (tt + 1) TH _ _ (by omega) (by omega) (by omega) h00 (pt_mono hP (fun k hk => by
          obtain ⟨F, F0, F1, F2, F3, F4, F5, F6⟩ := hk
          rcases Int.lt_or_le F (4 * tt) with z | z
          · exact ⟨F, F0, z, F2, F3, F4, F5, F6⟩
          · exact absurd (by rw [show F / 4 = tt by omega, ← b2]; exact (go_S hcf b0 b1).1) F3))
      · -- stays
        refine ma_iconst dX12_move_83 ?_
        refine ma_rcmp_eq 90 dX12_move_84 rfl (by decide) (by decide) (fun c84 => ?_) (fun c84 => absurd c84 (by decide))
        refine ma_iconst dX12_move_90 ?_
        refine ma_istoreN dX12_move_91 (by decide) rfl ?_
        refine l_move93 hcf hi hcu hM h77 hf h92 h93 h94 hb nb hgm hcm hA hMV ⟨t0, by omega⟩ (fun z => by obtain ⟨i, i0, i1, e⟩ := go_ex hcf z; exact bn i i0 i1 e) (fun TH' x4' x5' h00' hP' => ?_) 5 0 TH _ (by omega) (by omega) (by omega) h00 (by rw [Int.add_zero]; exact hP)
        refine ma_iincN dX12_move_167 rfl (by decide) rfl ?_
        refine ma_goto 71 dX12_move_170 rfl ?_
        exact ih (tt + 1) TH' _ _ (by omega) (by omega) (by omega) h00' hP'
set_option maxHeartbeats 2000000 in
theorem l_move186 {h : ma_H} {b nx d : Nat} {pf cu Aa : Int → Int} {Q : Option ma_V → ma_H → Nat → Prop} {I : Nat → Int} {t : Int} {G : Int → Int} {a : Int} {X : Int → Prop} {nw : Int → Int} {s t' : Int} {H T C go gl : Int → Int} {gm : Int} {cl : Int → Int} {cm : Int} {la : Int → Int} {e : Int} {ix jn nu M Sg : Int → Int} {Mi : Int → Int} {x5 : Option ma_V} {j : Int} {MV : Int → Int} (hcf : CFG t G a X nw s t' H T C go gl gm cl cm la e ix jn nu M Sg) (hi : MIV X nw s jn Mi) (hcu : ∀ y, 0 ≤ y → y < 4 → ¬ X y → cu (jn y) = la y) (hM : h 73 = co 12 (mo I)) (h77 : h 77 = ci 64 pf) (hf : PB pf) (h92 : h 92 = ci 4 go) (h93 : h 93 = ci 16 gl) (h94 : h 94 = ci 16 cl) (hb : h b = ci 33 Aa) (nb : b ≠ 84 ∧ b ≠ 96 ∧ b ≠ 95) (hgm : I 32 = gm) (hcm : I 34 = cm) (hA : AG t G Aa) (j0 : 0 ≤ j ∧ j < cm) (KO : ∀ V TH, TH 0 = t' → PT (CMd t' C M Mi Sg) TH (fun k => D1 t G a X H T M Sg (4 * t) k ∨ D2 X s jn nu (4 * (j + 1)) k) → ma_J none mX12_move (d + 3) 0 0 206 [some (vr 73), some (vr b), some (vi s), some (vi j), some (vi 4), x5] [] (ma_up (ma_up (ma_up h 95 (ci 8 MV)) 84 (ci 4 V)) 96 (ci 33 TH)) nx Q) :
    ∀ (m : Nat) (f : Int) (V : Int → Int) (TH : Int → Int), (0 ≤ f) → (f ≤ 4) → (4 - f < m) → (TH 0 = t') → (PT (CMd t' C M Mi Sg) TH (fun k => D1 t G a X H T M Sg (4 * t) k ∨ D2 X s jn nu (4 * j + f) k)) → ma_J none mX12_move (d + 3) 0 0 186 [some (vr 73), some (vr b), some (vi s), some (vi j), some (vi f), x5] [] (ma_up (ma_up (ma_up h 95 (ci 8 MV)) 84 (ci 4 V)) 96 (ci 33 TH)) nx Q := by
  have q := cfg_s hcf
  intro m
  induction m with
  | zero => intro f V TH f0 f1 f2 h00 hP; omega
  | succ m ih =>
    intro f V TH f0 f1 f2 h00 hP
    refine ma_iload dX12_move_186 rfl ?_
    refine ma_iconst dX12_move_188 ?_
    refine ma_rcmp_ge 206 dX12_move_189 rfl (by constructor <;> omega) (by constructor <;> omega) (fun c189 => ?_) (fun c189 => ?_)
    · -- 206
      have e4 : f = 4 := by omega
      subst e4
      exact KO V TH h00 (by rw [show 4 * (j + 1) = 4 * j + 4 by omega]; exact hP)
    · -- 192
      refine ma_aload_n dX12_move_192 rfl ?_
      refine ma_iload_n dX12_move_193 rfl ?_
      refine ma_iload_n dX12_move_194 rfl ?_
      refine ma_iload dX12_move_195 rfl ?_
      refine ma_cV [_, _, _] dX12_move_197 wX12_inside lX12_390 iX12_inside sX12_inside rfl (by first | exact ma_up_s _ _ _ | exact (ma_up_n (by first | decide | omega)).trans (ma_up_s _ _ _) | exact (ma_up_n (by first | decide | omega)).trans ((ma_up_n (by first | decide | omega)).trans (ma_up_s _ _ _)) | exact (ma_up_n (by first | decide | omega)).trans ((ma_up_n (by first | decide | omega)).trans ((ma_up_n (by first | decide | omega)).trans (by assumption)))) (Nat.le_of_ble_eq_true rfl) ?_
      obtain ⟨y, y0, y1, hy, ey⟩ := hcf.2.2.2.2.2.1.2.2.2 j j0.1 j0.2
      have cn := cfg_n hcf y0 y1 hy
      have vn := iv_in cn.2.1.1 cn.2.1.2
      have wn := im_in vn.1 vn.2 f0 (show f < 4 by omega)
      have en := (im_mi cn.2.1.1 cn.2.1.2 f0 (show f < 4 by omega)).2
      obtain ⟨c, ec⟩ : ∃ c, c = im (iv (nu y)) f := ⟨_, rfl⟩
      rw [← ec] at wn en
      subst ey
      subst en
      refine c_X12_inside hcf ((ma_up_n (by decide)).trans hM) ((ma_up_n (by decide)).trans h77) hf ((ma_up_n (by decide)).trans h94) hcm hcu y0 y1 hy wn.1 wn.2 (fun hx => ?_) (fun hx hcy V' => ?_)
      · -- none
        refine ma_iincN dX12_move_200 rfl (by decide) rfl ?_
        refine ma_goto 186 dX12_move_203 rfl ?_
        exact ih (im (nu y) c + 1) V TH (by omega) (by omega) (by omega) h00 (pt_mono hP (fun k hk => hk.elim Or.inl (fun x => by
          obtain ⟨y', c', z0, z1, z2, z3, z4, z5, z6, z7, z8⟩ := x
          have u := cfg_n hcf z0 z1 z2
          have uw := im_in u.2.1.1 u.2.1.2 z3 z4
          rcases Int.lt_or_le (4 * jn y' + im (nu y') c') (4 * jn y + im (nu y) c) with zz | zz
          · exact Or.inr ⟨y', c', z0, z1, z2, z3, z4, z5, z6, zz, z8⟩
          · have a1 : jn y' = jn y := by omega
            have a2 := hcf.2.2.2.2.2.1.2.2.1 y' y z0 z1 y0 y1 z2 hy a1
            have a3 : im (nu y) c' = im (nu y) c := by rw [a2] at zz z7 uw; omega
            have a4 := im_ij cn.2.1.1 cn.2.1.2 z3 z4 wn.1 wn.2 a3
            exfalso
            rw [a4] at z5 z6
            rw [a2] at z6
            exact hx.elim z5 z6)))
      · -- glued
        refine ma_iincN dX12_move_200 rfl (by decide) rfl ?_
        refine ma_goto 186 dX12_move_203 rfl ?_
        refine ih (im (nu y) c + 1) V' _ (by omega) (by omega) (by omega) (by rw [uf_n (by omega)]; exact h00) ?_
        rw [show 1 + 4 * (s + jn y) + im (nu y) c = 1 + (4 * (s + jn y) + im (nu y) c) by omega]
        have ci := cm_inn hcf hi y0 y1 hy wn.1 wn.2 hx hcy
        have iq := in_q hcf y0 y1 hy wn.1 wn.2 hx hcy
        have cnc := cfg_n hcf wn.1 wn.2 hx
        have iw := im_in cn.2.1.1 cn.2.1.2 wn.1 wn.2
        refine pt_put hP (by omega) (by omega) (by rw [ci]; omega) (by rw [ci, cv_32 (by omega) iq.1.1 iq.1.2]) (fun k hk => hk.elim (fun x => Or.inl (Or.inl x)) (fun x => by
          obtain ⟨y', c', z0, z1, z2, z3, z4, z5, z6, z7, z8⟩ := x
          have u := cfg_n hcf z0 z1 z2
          have uw := im_in u.2.1.1 u.2.1.2 z3 z4
          rcases Int.lt_or_le (4 * jn y' + im (nu y') c') (4 * jn y + im (nu y) c) with zz | zz
          · exact Or.inl (Or.inr ⟨y', c', z0, z1, z2, z3, z4, z5, z6, zz, z8⟩)
          · have a1 : jn y' = jn y := by omega
            have a2 := hcf.2.2.2.2.2.1.2.2.1 y' y z0 z1 y0 y1 z2 hy a1
            have a3 : im (nu y) c' = im (nu y) c := by rw [a2] at zz z7 uw; omega
            have a4 := im_ij cn.2.1.1 cn.2.1.2 z3 z4 wn.1 wn.2 a3
            exact Or.inr (by rw [z8, a2, a4])))
set_option maxHeartbeats 2000000 in
theorem l_move175 {h : ma_H} {b nx d : Nat} {pf cu Aa : Int → Int} {Q : Option ma_V → ma_H → Nat → Prop} {I : Nat → Int} {t : Int} {G : Int → Int} {a : Int} {X : Int → Prop} {nw : Int → Int} {s t' : Int} {H T C go gl : Int → Int} {gm : Int} {cl : Int → Int} {cm : Int} {la : Int → Int} {e : Int} {ix jn nu M Sg : Int → Int} {Mi : Int → Int} {x5 : Option ma_V} {MV : Int → Int} (hcf : CFG t G a X nw s t' H T C go gl gm cl cm la e ix jn nu M Sg) (hi : MIV X nw s jn Mi) (hcu : ∀ y, 0 ≤ y → y < 4 → ¬ X y → cu (jn y) = la y) (hM : h 73 = co 12 (mo I)) (h77 : h 77 = ci 64 pf) (hf : PB pf) (h92 : h 92 = ci 4 go) (h93 : h 93 = ci 16 gl) (h94 : h 94 = ci 16 cl) (hb : h b = ci 33 Aa) (nb : b ≠ 84 ∧ b ≠ 96 ∧ b ≠ 95) (hgm : I 32 = gm) (hcm : I 34 = cm) (hA : AG t G Aa) (KO : ∀ V TH x3 x4, TH 0 = t' → PT (CMd t' C M Mi Sg) TH (fun k => D1 t G a X H T M Sg (4 * t) k ∨ D2 X s jn nu (4 * cm) k) → ma_J none mX12_move (d + 3) 0 0 212 [some (vr 73), some (vr b), some (vi s), x3, x4, x5] [] (ma_up (ma_up (ma_up h 95 (ci 8 MV)) 84 (ci 4 V)) 96 (ci 33 TH)) nx Q) :
    ∀ (m : Nat) (j : Int) (V : Int → Int) (TH : Int → Int) (x4 : Option ma_V), (0 ≤ j) → (j ≤ cm) → (cm - j < m) → (TH 0 = t') → (PT (CMd t' C M Mi Sg) TH (fun k => D1 t G a X H T M Sg (4 * t) k ∨ D2 X s jn nu (4 * j) k)) → ma_J none mX12_move (d + 3) 0 0 175 [some (vr 73), some (vr b), some (vi s), some (vi j), x4, x5] [] (ma_up (ma_up (ma_up h 95 (ci 8 MV)) 84 (ci 4 V)) 96 (ci 33 TH)) nx Q := by
  have q := cfg_s hcf
  intro m
  induction m with
  | zero => intro j V TH x4 j0 j1 j2 h00 hP; omega
  | succ m ih =>
    intro j V TH x4 j0 j1 j2 h00 hP
    refine ma_iload_n dX12_move_175 rfl ?_
    refine ma_aload_n dX12_move_176 rfl ?_
    refine ma_getf dX12_move_177 fX12_381 (by first | exact ma_up_s _ _ _ | exact (ma_up_n (by first | decide | omega)).trans (ma_up_s _ _ _) | exact (ma_up_n (by first | decide | omega)).trans ((ma_up_n (by first | decide | omega)).trans (ma_up_s _ _ _)) | exact (ma_up_n (by first | decide | omega)).trans ((ma_up_n (by first | decide | omega)).trans ((ma_up_n (by first | decide | omega)).trans (by assumption)))) (by rfl) ?_
    rw [hcm]
    refine ma_rcmp_ge 212 dX12_move_180 rfl (by constructor <;> omega) (by constructor <;> omega) (fun c180 => ?_) (fun c180 => ?_)
    · -- 212
      have e4 : j = cm := by omega
      rw [e4] at hP
      exact KO V TH _ _ h00 hP
    · -- 183
      refine ma_iconst dX12_move_183 ?_
      refine ma_istoreN dX12_move_184 (by decide) rfl ?_
      refine l_move186 hcf hi hcu hM h77 hf h92 h93 h94 hb nb hgm hcm hA ⟨j0, by omega⟩ (fun V' TH' h00' hP' => ?_) 5 0 V TH (by omega) (by omega) (by omega) h00 (by rw [Int.add_zero]; exact hP)
      refine ma_iincN dX12_move_206 rfl (by decide) rfl ?_
      refine ma_goto 175 dX12_move_209 rfl ?_
      exact ih (j + 1) V' TH' _ (by omega) (by omega) (by omega) h00' hP'
set_option maxHeartbeats 2000000 in
theorem l_move225 {h : ma_H} {b nx d : Nat} {pf cu Aa : Int → Int} {Q : Option ma_V → ma_H → Nat → Prop} {I : Nat → Int} {t : Int} {G : Int → Int} {a : Int} {X : Int → Prop} {nw : Int → Int} {s t' : Int} {H T C go gl : Int → Int} {gm : Int} {cl : Int → Int} {cm : Int} {la : Int → Int} {e : Int} {ix jn nu M Sg : Int → Int} {Mi : Int → Int} {x5 : Option ma_V} {i : Int} {MV : Int → Int} (hcf : CFG t G a X nw s t' H T C go gl gm cl cm la e ix jn nu M Sg) (hi : MIV X nw s jn Mi) (hcu : ∀ y, 0 ≤ y → y < 4 → ¬ X y → cu (jn y) = la y) (hM : h 73 = co 12 (mo I)) (h77 : h 77 = ci 64 pf) (hf : PB pf) (h92 : h 92 = ci 4 go) (h93 : h 93 = ci 16 gl) (h94 : h 94 = ci 16 cl) (hb : h b = ci 33 Aa) (nb : b ≠ 84 ∧ b ≠ 96 ∧ b ≠ 95) (hgm : I 32 = gm) (hcm : I 34 = cm) (hA : AG t G Aa) (hMV : ∀ n, 0 ≤ n → n < t → ¬ gS G a X n → MV n = sty (gS G a X) n) (i0 : 0 ≤ i ∧ i < gm) (KO : ∀ V TH, TH 0 = t' → PT (CMd t' C M Mi Sg) TH (fun k => (D1 t G a X H T M Sg (4 * t) k ∨ D2 X s jn nu (4 * cm) k) ∨ D3 G a X H T M Sg go (4 * (i + 1)) k) → ma_J none mX12_move (d + 3) 0 0 246 [some (vr 73), some (vr b), some (vi s), some (vi i), some (vi 4), x5] [] (ma_up (ma_up (ma_up h 95 (ci 8 MV)) 84 (ci 4 V)) 96 (ci 33 TH)) nx Q) :
    ∀ (m : Nat) (f : Int) (V : Int → Int) (TH : Int → Int), (0 ≤ f) → (f ≤ 4) → (4 - f < m) → (TH 0 = t') → (PT (CMd t' C M Mi Sg) TH (fun k => (D1 t G a X H T M Sg (4 * t) k ∨ D2 X s jn nu (4 * cm) k) ∨ D3 G a X H T M Sg go (4 * i + f) k)) → ma_J none mX12_move (d + 3) 0 0 225 [some (vr 73), some (vr b), some (vi s), some (vi i), some (vi f), x5] [] (ma_up (ma_up (ma_up h 95 (ci 8 MV)) 84 (ci 4 V)) 96 (ci 33 TH)) nx Q := by
  have q := cfg_s hcf
  intro m
  induction m with
  | zero => intro f V TH f0 f1 f2 h00 hP; omega
  | succ m ih =>
    intro f V TH f0 f1 f2 h00 hP
    refine ma_iload dX12_move_225 rfl ?_
    refine ma_iconst dX12_move_227 ?_
    refine ma_rcmp_ge 246 dX12_move_228 rfl (by constructor <;> omega) (by constructor <;> omega) (fun c228 => ?_) (fun c228 => ?_)
    · -- 246
      have e4 : f = 4 := by omega
      subst e4
      exact KO V TH h00 (by rw [show 4 * (i + 1) = 4 * i + 4 by omega]; exact hP)
    · -- 231
      refine ma_aload_n dX12_move_231 rfl ?_
      refine ma_aload_n dX12_move_232 rfl ?_
      refine ma_iload_n dX12_move_233 rfl ?_
      refine ma_iload_n dX12_move_234 rfl ?_
      refine ma_iload dX12_move_235 rfl ?_
      refine ma_cV [_, _, _, _] dX12_move_237 wX12_outside lX12_393 iX12_outside sX12_outside rfl (by first | exact ma_up_s _ _ _ | exact (ma_up_n (by first | decide | omega)).trans (ma_up_s _ _ _) | exact (ma_up_n (by first | decide | omega)).trans ((ma_up_n (by first | decide | omega)).trans (ma_up_s _ _ _)) | exact (ma_up_n (by first | decide | omega)).trans ((ma_up_n (by first | decide | omega)).trans ((ma_up_n (by first | decide | omega)).trans (by assumption)))) (Nat.le_of_ble_eq_true rfl) ?_
      refine c_outC hcf hi hcu ((ma_up_n (by decide)).trans hM) ((ma_up_n (by decide)).trans h77) hf ((ma_up_n (by decide)).trans h92) ((ma_up_n (by decide)).trans h93) ((ma_up_n (by decide)).trans h94) (ma_up_s _ _ _) ((ma_up_n nb.2.2).trans hb) ⟨nb.1, nb.2.1⟩ hgm hcm hA hMV i0.1 i0.2 f0 (by omega) hP (fun V' TH' e0 hP' => ?_)
      refine ma_iincN dX12_move_240 rfl (by decide) rfl ?_
      refine ma_goto 225 dX12_move_243 rfl ?_
      exact ih (f + 1) V' TH' (by omega) (by omega) (by omega) (by rw [e0]; exact h00) (pt_mono hP' (fun k hk => hk.elim (fun x => Or.inl (Or.inl x)) (fun ⟨i', f', a0, a1, a2, a3, a4, a5, a6⟩ => by
        rcases Int.lt_or_le (4 * i' + f') (4 * i + f) with zz | zz
        · exact Or.inl (Or.inr ⟨i', f', a0, a1, a2, zz, a4, a5, a6⟩)
        · have b1 : i' = i := by omega
          have b2 : f' = f := by omega
          rw [b1, b2] at a4 a5 a6
          exact Or.inr ⟨a4, a5, a6⟩)))
set_option maxHeartbeats 2000000 in
theorem l_move214 {h : ma_H} {b nx d : Nat} {pf cu Aa : Int → Int} {Q : Option ma_V → ma_H → Nat → Prop} {I : Nat → Int} {t : Int} {G : Int → Int} {a : Int} {X : Int → Prop} {nw : Int → Int} {s t' : Int} {H T C go gl : Int → Int} {gm : Int} {cl : Int → Int} {cm : Int} {la : Int → Int} {e : Int} {ix jn nu M Sg : Int → Int} {Mi : Int → Int} {x5 : Option ma_V} {MV : Int → Int} (hcf : CFG t G a X nw s t' H T C go gl gm cl cm la e ix jn nu M Sg) (hi : MIV X nw s jn Mi) (hcu : ∀ y, 0 ≤ y → y < 4 → ¬ X y → cu (jn y) = la y) (hM : h 73 = co 12 (mo I)) (h77 : h 77 = ci 64 pf) (hf : PB pf) (h92 : h 92 = ci 4 go) (h93 : h 93 = ci 16 gl) (h94 : h 94 = ci 16 cl) (hb : h b = ci 33 Aa) (nb : b ≠ 84 ∧ b ≠ 96 ∧ b ≠ 95) (hgm : I 32 = gm) (hcm : I 34 = cm) (hA : AG t G Aa) (hMV : ∀ n, 0 ≤ n → n < t → ¬ gS G a X n → MV n = sty (gS G a X) n) (KO : ∀ V TH x3 x4, TH 0 = t' → PT (CMd t' C M Mi Sg) TH (fun k => (D1 t G a X H T M Sg (4 * t) k ∨ D2 X s jn nu (4 * cm) k) ∨ D3 G a X H T M Sg go (4 * gm) k) → ma_J none mX12_move (d + 3) 0 0 252 [some (vr 73), some (vr b), some (vi s), x3, x4, x5] [] (ma_up (ma_up (ma_up h 95 (ci 8 MV)) 84 (ci 4 V)) 96 (ci 33 TH)) nx Q) :
    ∀ (m : Nat) (i : Int) (V : Int → Int) (TH : Int → Int) (x4 : Option ma_V), (0 ≤ i) → (i ≤ gm) → (gm - i < m) → (TH 0 = t') → (PT (CMd t' C M Mi Sg) TH (fun k => (D1 t G a X H T M Sg (4 * t) k ∨ D2 X s jn nu (4 * cm) k) ∨ D3 G a X H T M Sg go (4 * i) k)) → ma_J none mX12_move (d + 3) 0 0 214 [some (vr 73), some (vr b), some (vi s), some (vi i), x4, x5] [] (ma_up (ma_up (ma_up h 95 (ci 8 MV)) 84 (ci 4 V)) 96 (ci 33 TH)) nx Q := by
  have q := cfg_s hcf
  intro m
  induction m with
  | zero => intro i V TH x4 i0 i1 i2 h00 hP; omega
  | succ m ih =>
    intro i V TH x4 i0 i1 i2 h00 hP
    refine ma_iload_n dX12_move_214 rfl ?_
    refine ma_aload_n dX12_move_215 rfl ?_
    refine ma_getf dX12_move_216 fX12_378 (by first | exact ma_up_s _ _ _ | exact (ma_up_n (by first | decide | omega)).trans (ma_up_s _ _ _) | exact (ma_up_n (by first | decide | omega)).trans ((ma_up_n (by first | decide | omega)).trans (ma_up_s _ _ _)) | exact (ma_up_n (by first | decide | omega)).trans ((ma_up_n (by first | decide | omega)).trans ((ma_up_n (by first | decide | omega)).trans (by assumption)))) (by rfl) ?_
    rw [hgm]
    refine ma_rcmp_ge 252 dX12_move_219 rfl (by constructor <;> omega) (by constructor <;> omega) (fun c219 => ?_) (fun c219 => ?_)
    · -- 252
      have e4 : i = gm := by omega
      rw [e4] at hP
      exact KO V TH _ _ h00 hP
    · -- 222
      refine ma_iconst dX12_move_222 ?_
      refine ma_istoreN dX12_move_223 (by decide) rfl ?_
      refine l_move225 hcf hi hcu hM h77 hf h92 h93 h94 hb nb hgm hcm hA hMV ⟨i0, by omega⟩ (fun V' TH' h00' hP' => ?_) 5 0 V TH (by omega) (by omega) (by omega) h00 (by rw [Int.add_zero]; exact hP)
      refine ma_iincN dX12_move_246 rfl (by decide) rfl ?_
      refine ma_goto 214 dX12_move_249 rfl ?_
      exact ih (i + 1) V' TH' _ (by omega) (by omega) (by omega) h00' hP'
set_option maxHeartbeats 2000000 in
theorem c_X12_move {h : ma_H} {b nx d : Nat} {pf cu Aa : Int → Int} {Q : Option ma_V → ma_H → Nat → Prop} {I : Nat → Int} {t : Int} {G : Int → Int} {a : Int} {X : Int → Prop} {nw : Int → Int} {s t' : Int} {H T C go gl : Int → Int} {gm : Int} {cl : Int → Int} {cm : Int} {la : Int → Int} {e : Int} {ix jn nu M Sg : Int → Int} {Mi : Int → Int} {TH00 MV00 V00 : Int → Int} (hcf : CFG t G a X nw s t' H T C go gl gm cl cm la e ix jn nu M Sg) (hi : MIV X nw s jn Mi) (hcu : ∀ y, 0 ≤ y → y < 4 → ¬ X y → cu (jn y) = la y) (hM : h 73 = co 12 (mo I)) (h77 : h 77 = ci 64 pf) (hf : PB pf) (h92 : h 92 = ci 4 go) (h93 : h 93 = ci 16 gl) (h94 : h 94 = ci 16 cl) (hb : h b = ci 33 Aa) (nb : b ≠ 84 ∧ b ≠ 96 ∧ b ≠ 95) (hgm : I 32 = gm) (hcm : I 34 = cm) (hA : AG t G Aa) (h95 : h 95 = ci 8 MV00) (h84 : h 84 = ci 4 V00) (h96 : h 96 = ci 33 TH00) (K : ∀ V MV TH, AG t' (CMd t' C M Mi Sg) TH → Q none (ma_up (ma_up (ma_up (ma_up h 95 (ci 8 MV)) 84 (ci 4 V)) 96 (ci 33 TH)) b (ci 33 TH)) nx) : ma_Ct mX12_move (d + 3) 0 0 [vr 73, vr b] h nx Q := by
  have q := cfg_s hcf
  have hh : h = (ma_up (ma_up (ma_up h 95 (ci 8 MV00)) 84 (ci 4 V00)) 96 (ci 33 TH00)) := by
    rw [ma_up_id h95, ma_up_id h84, ma_up_id h96]
  refine ma_Ct.of (by decide +kernel) (Nat.le_of_ble_eq_true rfl) ?_
  rw [hh]
  refine ma_iconst dX12_move_0 ?_
  refine ma_istore_nN dX12_move_1 (by decide) rfl ?_
  refine l_move2 hM (fun TH0 _ hT0 => ?_) 34 0 TH00 (by omega) (by omega) (by omega) (fun j j0 j1 => by omega)
  refine ma_iconst dX12_move_21 ?_
  refine ma_istore_nN dX12_move_22 (by decide) rfl ?_
  refine ma_iconst dX12_move_23 ?_
  refine ma_istore_nN dX12_move_24 (by decide) rfl ?_
  rw [show (0 : Int) = sty (gS G a X) 0 from rfl]
  refine l_move25 hcf hM h92 hb nb hgm hA (fun MV _ hMV => ?_) 9 0 MV00 (by omega) (by omega) (by omega) (fun n n0 n1 => by omega)
  refine ma_aload_n dX12_move_57 rfl ?_
  refine ma_getf dX12_move_58 fX12_78 (by first | exact ma_up_s _ _ _ | exact (ma_up_n (by first | decide | omega)).trans (ma_up_s _ _ _) | exact (ma_up_n (by first | decide | omega)).trans ((ma_up_n (by first | decide | omega)).trans (ma_up_s _ _ _)) | exact (ma_up_n (by first | decide | omega)).trans ((ma_up_n (by first | decide | omega)).trans ((ma_up_n (by first | decide | omega)).trans (by assumption)))) (by rfl) ?_
  refine ma_iconst dX12_move_61 ?_
  refine ma_iload_n dX12_move_62 rfl ?_
  refine ma_aload_n dX12_move_63 rfl ?_
  refine ma_getf dX12_move_64 fX12_381 (by first | exact ma_up_s _ _ _ | exact (ma_up_n (by first | decide | omega)).trans (ma_up_s _ _ _) | exact (ma_up_n (by first | decide | omega)).trans ((ma_up_n (by first | decide | omega)).trans (ma_up_s _ _ _)) | exact (ma_up_n (by first | decide | omega)).trans ((ma_up_n (by first | decide | omega)).trans ((ma_up_n (by first | decide | omega)).trans (by assumption)))) (by rfl) ?_
  rw [hcm]
  refine ma_iadd dX12_move_67 ?_
  refine ma_iast dX12_move_68 (by first | exact ma_up_s _ _ _ | exact (ma_up_n (by first | decide | omega)).trans (ma_up_s _ _ _) | exact (ma_up_n (by first | decide | omega)).trans ((ma_up_n (by first | decide | omega)).trans (ma_up_s _ _ _)) | exact (ma_up_n (by first | decide | omega)).trans ((ma_up_n (by first | decide | omega)).trans ((ma_up_n (by first | decide | omega)).trans (by assumption)))) (by omega) (by omega) (by omega) ?_
  rw [ma_up_up]
  refine ma_iconst dX12_move_69 ?_
  refine ma_istore_nN dX12_move_70 (by decide) rfl ?_
  refine l_move71 hcf hi hcu hM h77 hf h92 h93 h94 hb nb hgm hcm hA hMV (fun TH1 _ _ _ h01 hP1 => ?_) 9 0 _ _ _ (by omega) (by omega) (by omega) (by rw [uf_s]; omega) ⟨fun k k0 k1 => Or.inl (by rw [uf_n (by omega)]; exact hT0 _ (by omega) (by omega)), fun k ⟨F, F0, F1, _⟩ => by omega⟩
  refine ma_iconst dX12_move_173 ?_
  refine ma_istore_nN dX12_move_174 (by decide) rfl ?_
  refine l_move175 hcf hi hcu hM h77 hf h92 h93 h94 hb nb hgm hcm hA (fun V2 TH2 _ _ h02 hP2 => ?_) 5 0 _ _ _ (by omega) (by omega) (by omega) h01 (pt_mono hP1 (fun k hk => hk.elim (fun x => x) (fun ⟨y, c, z0, z1, z2, z3, z4, z5, z6, z7, z8⟩ => by have u := cfg_n hcf z0 z1 z2; have := im_in u.2.1.1 u.2.1.2 z3 z4; omega)))
  refine ma_iconst dX12_move_212 ?_
  refine ma_istore_nN dX12_move_213 (by decide) rfl ?_
  refine l_move214 hcf hi hcu hM h77 hf h92 h93 h94 hb nb hgm hcm hA hMV (fun V3 TH3 _ _ h03 hP3 => ?_) 5 0 _ _ _ (by omega) (by omega) (by omega) h02 (pt_mono hP2 (fun k hk => hk.elim (fun x => x) (fun ⟨i, f, a0, a1, a2, a3, _⟩ => by omega)))
  refine ma_aload_n dX12_move_252 rfl ?_
  refine ma_getf dX12_move_253 fX12_78 (by first | exact ma_up_s _ _ _ | exact (ma_up_n (by first | decide | omega)).trans (ma_up_s _ _ _) | exact (ma_up_n (by first | decide | omega)).trans ((ma_up_n (by first | decide | omega)).trans (ma_up_s _ _ _)) | exact (ma_up_n (by first | decide | omega)).trans ((ma_up_n (by first | decide | omega)).trans ((ma_up_n (by first | decide | omega)).trans (by assumption)))) (by rfl) ?_
  refine ma_aload_n dX12_move_256 rfl ?_
  refine ma_cS [_, _] dX12_move_257 wX12_lay lX12_168 tX12_lay (Nat.le_of_ble_eq_true rfl) ?_
  refine c_X12_lay (ma_up_s _ _ _) ((ma_up_n (by first | decide | omega)).trans ((ma_up_n (by first | decide | omega)).trans ((ma_up_n (by first | decide | omega)).trans hb))) (Ne.symm nb.2.1) ?_
  exact ma_vret dX12_move_260 rfl (K V3 MV TH3 (pt_end hcf hi hP3 h03))
