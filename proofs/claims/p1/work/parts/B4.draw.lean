/-- the class's own object -/
abbrev xo (s : Int) : List ma_V := [vr 1, vr 3, vr 5, vr 7, vr 12, vr 13, vr 31, vr 33, vr 36, vr 39, vr 44, vr 54, vr 59, vr 69, vi s]
theorem sc_kp {h h' : ma_H} {l : List Nat} (k : kp h h' l) (hl : ∀ j, 39 ≤ j → j ≤ 58 → j ∉ l) (s : SC h) : SC h' := by
  obtain ⟨a, b, c, e, f, u, F, g1, g2⟩ := s
  exact ⟨(k 54 (hl 54 (by decide) (by decide))).trans a, (k 39 (hl 39 (by decide) (by decide))).trans b, sn_kp k (hl 40 (by decide) (by decide)) (hl 41 (by decide) (by decide)) (hl 42 (by decide) (by decide)) (hl 43 (by decide) (by decide)) c, sv_kp k (hl 57 (by decide) (by decide)) (hl 58 (by decide) (by decide)) e, sb_kp k (fun j a b => hl j (by omega) (by omega)) f, u, F, (k 55 (hl 55 (by decide) (by decide))).trans g1, (k 56 (hl 56 (by decide) (by decide))).trans g2⟩
theorem sc_up {h : ma_H} {k : Nat} {c : ma_C} (hk : k < 39 ∨ 58 < k) (s : SC h) : SC (ma_up h k c) := sc_kp (l := [k]) (kp_up (by simp) (kp_rf _ _)) (fun j a b z => by simp at z; omega) s
/-- what one draw tells: kind, tet, two corners, the state behind it -/
def dk (s : Int) : Int := dv (dnx s) 4
def dtt (s : Int) : Int := dv (dnx (dnx s)) 8
def ds3 (s : Int) : Int := if dk s = 2 then dnx (dnx s) else dnx (dnx (dnx s))
def du (s : Int) : Int := if dk s = 2 then 0 else dv (dnx (dnx (dnx s))) 4
def dend (s : Int) : Int := if dk s = 1 then dnx (ds3 s) else ds3 s
def dw (s : Int) : Int := if dk s = 1 then dv (dnx (ds3 s)) 4 else 0
theorem d_in (s : Int) : (0 ≤ dk s ∧ dk s < 4) ∧ (0 ≤ dtt s ∧ dtt s < 8) ∧ (0 ≤ du s ∧ du s < 4) ∧ (0 ≤ dw s ∧ dw s < 4) := by
  refine ⟨dv_in (by decide), dv_in (by decide), ?_, ?_⟩
  · unfold du; split
    · decide
    · exact dv_in (by decide)
  · unfold dw; split
    · exact dv_in (by decide)
    · decide
def dpl (t s : Int) : Int := plc t (dk s) (dtt s) (du s) (dw s)
/-- one draw: done, or it can't be -/
def ONE (t : Int) (G : Int → Int) (s t1 : Int) (G1 : Int → Int) (ok : Int) : Prop :=
  (0 ≤ dpl t s ∧ RFE t G (dk s) (dpl t s) ∧ STP t G (dpl t s) t1 G1 ∧ ok = 1) ∨ (¬ (0 ≤ dpl t s ∧ RFE t G (dk s) (dpl t s)) ∧ t1 = t ∧ G1 = G ∧ ok = 0)
theorem stp_ok {t k t1 : Int} {G G1 : Int → Int} (hG : VG t G) (hC : CN t G) (h : STP t G k t1 G1) : VG t1 G1 ∧ CN t1 G1 := by
  obtain ⟨-, C, L, ties, m, l, e⟩ := h
  have q := mr_ok hG hC m
  rw [e]
  exact li_vg q.1 q.2 l
theorem one_ok {t s t1 ok : Int} {G G1 : Int → Int} (hG : VG t G) (hC : CN t G) (h : ONE t G s t1 G1 ok) : VG t1 G1 ∧ CN t1 G1 := by
  rcases h with ⟨-, -, q, -⟩ | ⟨-, e1, e2, -⟩
  · exact stp_ok hG hC q
  · rw [e1, e2]; exact ⟨hG, hC⟩
/-- many draws -/
def DRW : Nat → Int → Int → (Int → Int) → Int → Int → (Int → Int) → Int → Prop
  | 0, _, t, G, e, t', G', e' => t' = t ∧ G' = G ∧ e' = e
  | n + 1, s, t, G, e, t', G', e' => ∃ t1 G1 ok, ONE t G s t1 G1 ok ∧ DRW n (dend s) t1 G1 (e + ok) t' G' e'
theorem drw_ok : ∀ (n : Nat) {s t e t' e' : Int} {G G' : Int → Int}, VG t G → CN t G → DRW n s t G e t' G' e' → VG t' G' ∧ CN t' G'
  | 0, _, _, _, _, _, _, _, hG, hC, h => by
    obtain ⟨e1, e2, -⟩ := h
    rw [e1, e2]; exact ⟨hG, hC⟩
  | n + 1, _, _, _, _, _, _, _, hG, hC, h => by
    obtain ⟨t1, G1, ok, h1, h2⟩ := h
    have q := one_ok hG hC h1
    exact drw_ok n q.1 q.2 h2
theorem c_X11_draw {h : ma_H} {nx d : Nat} {n s : Int} {Q : Option ma_V → ma_H → Nat → Prop} (hx : h 0 = co 11 (xo s)) (hn : 0 < n ∧ n ≤ 1000) (K : Q (some (vi (dv (dnx s) n))) (ma_up h 0 (co 11 (xo (dnx s)))) nx) : ma_Ct mX11_draw d 0 0 [vr 0, vi n] h nx Q := by
  have ub := ushr_b (dnx s)
  refine ma_Ct.of (by decide +kernel) (Nat.le_of_ble_eq_true rfl) ?_
  refine ma_aload_n dX11_draw_0 rfl ?_
  refine ma_aload_n dX11_draw_1 rfl ?_
  refine ma_getf dX11_draw_2 fX11_298 (by first | exact ma_up_s _ _ _ | assumption) (by rfl) ?_
  refine ma_ldcw (n := 1103515245) dX11_draw_5 vX11_307 (by decide +kernel) ?_
  refine ma_imul dX11_draw_8 ?_
  refine ma_sipush dX11_draw_9 ?_
  refine ma_iadd dX11_draw_12 ?_
  refine ma_puti dX11_draw_13 fX11_298 (by first | exact ma_up_s _ _ _ | assumption) (Nat.le_of_ble_eq_true rfl) ?_
  rw [show (xo s).set 14 (vi (s * 1103515245 + 12345)) = xo (dnx s) from rfl]
  refine ma_iload_n dX11_draw_16 rfl ?_
  refine ma_iconst dX11_draw_17 ?_
  refine ma_rcmp_ge 25 dX11_draw_18 rfl (by constructor <;> omega) (by decide) (fun c18 => ?_) (fun c18 => absurd c18 (by omega))
  refine ma_aload_n dX11_draw_25 rfl ?_
  refine ma_getf dX11_draw_26 fX11_298 (by first | exact ma_up_s _ _ _ | assumption) (by rfl) ?_
  refine ma_bipush dX11_draw_29 ?_
  refine ma_iushr dX11_draw_31 ?_
  refine ma_iload_n dX11_draw_32 rfl ?_
  refine ma_kmod dX11_draw_33 (by constructor <;> omega) (by constructor <;> omega) ?_
  exact ma_iret dX11_draw_34 rfl K
theorem l_dO45 {h : ma_H} {d : Nat} {t s : Int} {G : Int → Int} {Q : Option ma_V → ma_H → Nat → Prop} (hx : h 0 = co 11 (xo s)) (hS : SC h) (h5 : h 5 = co 8 [vi t, vr 6]) (h6 : h 6 = ci 32 G) (hG : VG t G) (hC : CN t G) (K : ∀ h' t1 G1 ok r, ONE t G s t1 G1 ok → (ok = 1 → 0 ≤ r) → (ok = 0 → r < 0) → -3 ≤ r ∧ r ≤ 100 → kp h h' (0 :: 5 :: 6 :: scl) → SC h' → h' 0 = co 11 (xo (dend s)) → h' 5 = co 8 [vi t1, vr 6] → h' 6 = ci 32 G1 → Q (some (vi r)) h' 1000000) : ma_J none mX11_drawOne (d + 5) 0 0 45 [some (vr 0), some (vr 5), some (vi (dk s)), some (vi (dtt s)), some (vi (du s)), some (vi (dw s))] [] (ma_up h 0 (co 11 (xo (dend s)))) 1000000 Q := by
  have ht := hG.1
  have di := d_in s
  refine ma_aload_n dX11_drawOne_45 rfl ?_
  refine ma_getf dX11_drawOne_46 fX11_77 (by first | exact ma_up_s _ _ _ | exact (ma_up_n (by decide)).trans hS.1) (by rfl) ?_
  refine ma_aload_n dX11_drawOne_49 rfl ?_
  refine ma_iload_n dX11_drawOne_50 rfl ?_
  refine ma_iload_n dX11_drawOne_51 rfl ?_
  refine ma_iload dX11_drawOne_52 rfl ?_
  refine ma_iload dX11_drawOne_54 rfl ?_
  refine ma_cV [_, _, _, _, _] dX11_drawOne_56 wX1_attempt lX11_249 iX1_attempt sX1_attempt rfl (by first | exact ma_up_s _ _ _ | exact (ma_up_n (by decide)).trans hS.1) (Nat.le_of_ble_eq_true rfl) ?_
  refine c_X1_attempt (Or.inl (by decide)) (Or.inl (by decide)) (by decide) (sc_up (Or.inl (by decide)) hS) ((ma_up_n (by decide)).trans h5) ((ma_up_n (by decide)).trans h6) hG hC di.1 (by unfold rg; omega) (by unfold rg; omega) (by unfold rg; omega) (fun hk => ?_) (fun h' E P hk hB hR k1 k2 k3 k4 => ?_) (fun h' E P C L ties t1 hk hB hR et hm hl k1 k2 k3 k4 => ?_)
  · exact ma_iret dX11_drawOne_59 rfl (K _ t G 0 (-1) (Or.inr ⟨fun z => by have q := z.1; unfold dpl at q; omega, rfl, rfl, rfl⟩) (fun z => absurd z (by decide)) (fun _ => by decide) (by decide) (kp_up (by simp) (kp_rf _ _)) (sc_up (Or.inl (by decide)) hS) (ma_up_s _ _ _) ((ma_up_n (by decide)).trans h5) ((ma_up_n (by decide)).trans h6))
  · have rb := RF_in (t := t) (G := G) (E := E) (P := P) (k := plc t (dk s) (dtt s) (du s) (dw s))
    exact ma_iret dX11_drawOne_59 rfl (K h' t G 0 _ (Or.inr ⟨fun z => rfe_un hG di.1 hk hB hR z.2, rfl, rfl, rfl⟩) (fun z => absurd z (by decide)) (fun _ => hR) (by omega) (kp_tr (kp_up (by simp) (kp_rf _ _)) (kp_mo (by simp) k1)) k2 ((k1 0 (by decide)).trans (ma_up_s _ _ _)) k3 k4)
  · have gb : -3 ≤ gr (plc t (dk s) (dtt s) (du s) (dw s)) ∧ gr (plc t (dk s) (dtt s) (du s) (dw s)) ≤ 3 := by unfold gr; split <;> split <;> omega
    have vb := (mr_ok hG hC hm).1.1
    exact ma_iret dX11_drawOne_59 rfl (K h' t1 _ 1 _ (Or.inl ⟨hk, ⟨E, P, hB, hR⟩, ⟨et, C, L, ties, hm, hl, rfl⟩, rfl⟩) (fun _ => by omega) (fun z => absurd z (by decide)) (by omega) (kp_tr (kp_up (by simp) (kp_rf _ _)) (kp_mo (by simp) k1)) k2 ((k1 0 (by decide)).trans (ma_up_s _ _ _)) k3 k4)
theorem c_X11_drawOne {h : ma_H} {d : Nat} {t s : Int} {G : Int → Int} {Q : Option ma_V → ma_H → Nat → Prop} (hx : h 0 = co 11 (xo s)) (hS : SC h) (h5 : h 5 = co 8 [vi t, vr 6]) (h6 : h 6 = ci 32 G) (hG : VG t G) (hC : CN t G) (K : ∀ h' t1 G1 ok r, ONE t G s t1 G1 ok → (ok = 1 → 0 ≤ r) → (ok = 0 → r < 0) → -3 ≤ r ∧ r ≤ 100 → kp h h' (0 :: 5 :: 6 :: scl) → SC h' → h' 0 = co 11 (xo (dend s)) → h' 5 = co 8 [vi t1, vr 6] → h' 6 = ci 32 G1 → Q (some (vi r)) h' 1000000) : ma_Ct mX11_drawOne (d + 5) 0 0 [vr 0, vr 5] h 1000000 Q := by
  have ht := hG.1
  have di := d_in s
  have dk0 : dv (dnx s) 4 = dk s := rfl
  refine ma_Ct.of (by decide +kernel) (Nat.le_of_ble_eq_true rfl) ?_
  refine ma_aload_n dX11_drawOne_0 rfl ?_
  refine ma_iconst dX11_drawOne_1 ?_
  refine ma_cV [_] dX11_drawOne_2 wX11_draw lX11_304 iX11_draw sX11_draw rfl (by first | exact ma_up_s _ _ _ | assumption) (Nat.le_of_ble_eq_true rfl) ?_
  refine c_X11_draw hx (by decide) ?_
  refine ma_istore_nN dX11_drawOne_5 (by decide) rfl ?_
  refine ma_aload_n dX11_drawOne_6 rfl ?_
  refine ma_bipush dX11_drawOne_7 ?_
  refine ma_cV [_] dX11_drawOne_9 wX11_draw lX11_304 iX11_draw sX11_draw rfl (by first | exact ma_up_s _ _ _ | assumption) (Nat.le_of_ble_eq_true rfl) ?_
  refine c_X11_draw (ma_up_s _ _ _) (by decide) ?_
  rw [ma_up_up]
  refine ma_istore_nN dX11_drawOne_12 (by decide) rfl ?_
  refine ma_iload_n dX11_drawOne_13 rfl ?_
  refine ma_iconst dX11_drawOne_14 ?_
  refine ma_rcmp_ne 22 dX11_drawOne_15 rfl (by constructor <;> omega) (by decide) (fun c15 => ?_) (fun c15 => ?_)
  · -- 22
    refine ma_aload_n dX11_drawOne_22 rfl ?_
    refine ma_iconst dX11_drawOne_23 ?_
    refine ma_cV [_] dX11_drawOne_24 wX11_draw lX11_304 iX11_draw sX11_draw rfl (by first | exact ma_up_s _ _ _ | assumption) (Nat.le_of_ble_eq_true rfl) ?_
    refine c_X11_draw (ma_up_s _ _ _) (by decide) ?_
    rw [ma_up_up]
    refine ma_istoreN dX11_drawOne_27 (by decide) rfl ?_
    refine ma_iload_n dX11_drawOne_29 rfl ?_
    refine ma_iconst dX11_drawOne_30 ?_
    refine ma_rcmp_ne 42 dX11_drawOne_31 rfl (by constructor <;> omega) (by decide) (fun c31 => ?_) (fun c31 => ?_)
    · -- 42
      refine ma_iconst dX11_drawOne_42 ?_
      refine ma_istoreN dX11_drawOne_43 (by decide) rfl ?_
      have c15' : ¬ dk s = 2 := c15
      have c31' : ¬ dk s = 1 := c31
      have e := l_dO45 (d := d) hx hS h5 h6 hG hC K
      unfold dend dw du ds3 at e
      simp only [if_neg c15', if_neg c31'] at e
      exact e
    · -- 34
      refine ma_aload_n dX11_drawOne_34 rfl ?_
      refine ma_iconst dX11_drawOne_35 ?_
      refine ma_cV [_] dX11_drawOne_36 wX11_draw lX11_304 iX11_draw sX11_draw rfl (by first | exact ma_up_s _ _ _ | assumption) (Nat.le_of_ble_eq_true rfl) ?_
      refine c_X11_draw (ma_up_s _ _ _) (by decide) ?_
      rw [ma_up_up]
      refine ma_goto 43 dX11_drawOne_39 rfl ?_
      refine ma_istoreN dX11_drawOne_43 (by decide) rfl ?_
      have c15' : ¬ dk s = 2 := c15
      have c31' : dk s = 1 := c31
      have e := l_dO45 (d := d) hx hS h5 h6 hG hC K
      unfold dend dw du ds3 at e
      simp only [if_neg c15', if_pos c31'] at e
      exact e
  · -- 18
    refine ma_iconst dX11_drawOne_18 ?_
    refine ma_goto 27 dX11_drawOne_19 rfl ?_
    refine ma_istoreN dX11_drawOne_27 (by decide) rfl ?_
    refine ma_iload_n dX11_drawOne_29 rfl ?_
    refine ma_iconst dX11_drawOne_30 ?_
    refine ma_rcmp_ne 42 dX11_drawOne_31 rfl (by constructor <;> omega) (by decide) (fun c31 => ?_) (fun c31 => ?_)
    · -- 42
      refine ma_iconst dX11_drawOne_42 ?_
      refine ma_istoreN dX11_drawOne_43 (by decide) rfl ?_
      have c15' : dk s = 2 := c15
      have c31' : ¬ dk s = 1 := c31
      have e := l_dO45 (d := d) hx hS h5 h6 hG hC K
      unfold dend dw du ds3 at e
      simp only [if_pos c15', if_neg c31'] at e
      exact e
    · -- 34
      refine ma_aload_n dX11_drawOne_34 rfl ?_
      refine ma_iconst dX11_drawOne_35 ?_
      refine ma_cV [_] dX11_drawOne_36 wX11_draw lX11_304 iX11_draw sX11_draw rfl (by first | exact ma_up_s _ _ _ | assumption) (Nat.le_of_ble_eq_true rfl) ?_
      refine c_X11_draw (ma_up_s _ _ _) (by decide) ?_
      rw [ma_up_up]
      refine ma_goto 43 dX11_drawOne_39 rfl ?_
      refine ma_istoreN dX11_drawOne_43 (by decide) rfl ?_
      exfalso; omega
