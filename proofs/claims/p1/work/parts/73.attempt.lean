def SB (h : ma_H) : Prop := ∃ E X D F P Z N S q ec pc, h 45 = ci 128 E ∧ h 46 = ci 128 X ∧ h 47 = ci 128 D ∧ h 48 = cz 128 F ∧ h 49 = ci 32 P ∧ h 50 = ci 32 Z ∧ h 51 = ci 32 N ∧ h 52 = ci 32 S ∧ h 53 = ci 128 q ∧ h 44 = co 7 [vr 45, vr 46, vr 47, vr 48, vr 49, vr 50, vr 51, vr 52, vi ec, vi pc, vr 53]
/-- the mover's things stand -/
def SC (h : ma_H) : Prop := h 54 = co 1 [vr 44, vr 39, vr 55, vr 57, vr 58] ∧ h 39 = co 2 [vr 40, vr 41, vr 42, vr 43] ∧ SN h ∧ SV h ∧ SB h ∧ ∃ u F, h 55 = co 8 [vi u, vr 56] ∧ h 56 = ci 32 F
abbrev scl : List Nat := [40, 41, 42, 43, 44, 45, 46, 47, 48, 49, 50, 51, 52, 53, 55, 56, 57, 58]
theorem sb_bh {h : ma_H} {E X D F P Z N S q : Int → Int} {ec pc : Int} : SB (bh h E X D F P Z N S q ec pc) := ⟨E, X, D, F, P, Z, N, S, q, ec, pc, bh_45, bh_46, bh_47, bh_48, bh_49, bh_50, bh_51, bh_52, bh_53, bh_44⟩
theorem sb_kp {h h' : ma_H} {l : List Nat} (k : kp h h' l) (hl : ∀ j, 44 ≤ j → j ≤ 53 → j ∉ l) (s : SB h) : SB h' := by
  obtain ⟨E, X, D, F, P, Z, N, S, q, ec, pc, a45, a46, a47, a48, a49, a50, a51, a52, a53, a44⟩ := s
  exact ⟨E, X, D, F, P, Z, N, S, q, ec, pc, (k 45 (hl 45 (by decide) (by decide))).trans a45, (k 46 (hl 46 (by decide) (by decide))).trans a46, (k 47 (hl 47 (by decide) (by decide))).trans a47, (k 48 (hl 48 (by decide) (by decide))).trans a48, (k 49 (hl 49 (by decide) (by decide))).trans a49, (k 50 (hl 50 (by decide) (by decide))).trans a50, (k 51 (hl 51 (by decide) (by decide))).trans a51, (k 52 (hl 52 (by decide) (by decide))).trans a52, (k 53 (hl 53 (by decide) (by decide))).trans a53, (k 44 (hl 44 (by decide) (by decide))).trans a44⟩
theorem kp_bh {h : ma_H} {E X D F P Z N S q : Int → Int} {ec pc : Int} : kp h (bh h E X D F P Z N S q ec pc) scl := fun j hj => bh_n (by
  simp only [List.mem_cons, List.not_mem_nil, or_false, not_or] at hj
  omega)
theorem sc_bh {h : ma_H} {E X D F P Z N S q : Int → Int} {ec pc : Int} (s : SC h) : SC (bh h E X D F P Z N S q ec pc) := by
  obtain ⟨a, b, ⟨L, A, B, C, c1, c2, c3, c4⟩, ⟨H, T, v1, v2⟩, -, u, F', x, y⟩ := s
  exact ⟨(bh_n (by omega)).trans a, (bh_n (by omega)).trans b, ⟨L, A, B, C, (bh_n (by omega)).trans c1, (bh_n (by omega)).trans c2, (bh_n (by omega)).trans c3, (bh_n (by omega)).trans c4⟩, ⟨H, T, (bh_n (by omega)).trans v1, (bh_n (by omega)).trans v2⟩, sb_bh, u, F', (bh_n (by omega)).trans x, (bh_n (by omega)).trans y⟩
theorem l_X1_attempt_54 {h : ma_H} {b g d : Nat} {t k kind : Int} {G E P : Int → Int} {Q : Option ma_V → ma_H → Nat → Prop} {x3 x4 x5 x7 : Option ma_V} (sb : b < 39 ∨ 58 < b) (sg : g < 39 ∨ 58 < g) (nbg : b ≠ g) (hS : SC h) (hb : h b = co 8 [vi t, vr g]) (hg : h g = ci 32 G) (hG : VG t G) (hC : CN t G) (hk : 0 ≤ k ∧ k < 200) (hR : RF t G E P k = 0) (hB : (32 ≤ k ∧ k < 160) ∨ 168 ≤ k → BP t G E P) (K3 : ∀ h' C L ties t1, t1 = t + gr k → MR t G k t1 C → LI t1 C L (24 * t1) ties → kp h h' (b :: g :: scl) → SC h' → h' b = co 8 [vi t1, vr g] → h' g = ci 32 (stl t1 C L) → Q (some (vi t1)) h' 1000000) : ma_J none mX1_attempt (d + 4) 0 0 54 [some (vr 54), some (vr b), some (vi kind), x3, x4, x5, some (vi k), x7] [] h 1000000 Q := by
  obtain ⟨hm, hn, hs, hv, hSB, u, F, hx, hy⟩ := hS
  refine ma_aload_n dX1_attempt_54 rfl ?_
  refine ma_aload_n dX1_attempt_55 rfl ?_
  refine ma_iload dX1_attempt_56 rfl ?_
  refine ma_aload_n dX1_attempt_58 rfl ?_
  refine ma_getf dX1_attempt_59 fX1_12 (by assumption) (by rfl) ?_
  refine ma_cV [_, _, _] dX1_attempt_62 wX1_make lX1_47 iX1_make sX1_make rfl (by assumption) (Nat.le_of_ble_eq_true rfl) ?_
  refine c_X1_make (c := 55) (e := 56) (t1 := t + gr k) sb sg (Or.inl ⟨rfl, rfl⟩) ⟨by omega, by omega, by omega, by omega⟩ hm hn hb hg hx hy hs hv hG hC hk hR hB rfl (fun h' C L ties kk a55 a56 as av mr li => ?_)
  have hb' := (kk b (by simp; omega)).trans hb
  have hg' := (kk g (by simp; omega)).trans hg
  have hm' := (kk 54 (by simp)).trans hm
  refine ma_aload_n dX1_attempt_65 rfl ?_
  refine ma_aload_n dX1_attempt_66 rfl ?_
  refine ma_getf dX1_attempt_67 fX1_12 (by assumption) (by rfl) ?_
  refine ma_cV [_] dX1_attempt_70 wX8_copy lX1_51 iX8_copy sX8_copy rfl (by assumption) (Nat.le_of_ble_eq_true rfl) ?_
  refine c_X8_copy hb' hg' a55 a56 nbg (by omega) (by omega) ?_
  have hbb : (ma_up (ma_up h' b (co 8 [vi (t + gr k), vr g])) g (ci 32 (stl (t + gr k) C L))) b = co 8 [vi (t + gr k), vr g] := (ma_up_n nbg).trans (ma_up_s _ _ _)
  refine ma_aload_n dX1_attempt_73 rfl ?_
  refine ma_getf dX1_attempt_74 fX1_54 (by assumption) (by rfl) ?_
  refine ma_iret dX1_attempt_77 rfl (K3 _ C L ties (t + gr k) rfl mr li ?_ ⟨?_, ?_, ?_, ?_, ?_, ?_⟩ hbb (ma_up_s _ _ _))
  · refine kp_up (by simp) (kp_up (by simp) (kp_mo ?_ kk))
    intro x hx
    simp only [List.mem_cons, List.not_mem_nil, or_false] at hx ⊢
    omega
  · exact (ma_up_n (by omega)).trans ((ma_up_n (by omega)).trans hm')
  · exact (ma_up_n (by omega)).trans ((ma_up_n (by omega)).trans ((kk 39 (by simp)).trans hn))
  · obtain ⟨L', A', B', C', c1, c2, c3, c4⟩ := as
    exact ⟨L', A', B', C', (ma_up_n (by omega)).trans ((ma_up_n (by omega)).trans c1), (ma_up_n (by omega)).trans ((ma_up_n (by omega)).trans c2), (ma_up_n (by omega)).trans ((ma_up_n (by omega)).trans c3), (ma_up_n (by omega)).trans ((ma_up_n (by omega)).trans c4)⟩
  · obtain ⟨H, T, v1, v2⟩ := av
    exact ⟨H, T, (ma_up_n (by omega)).trans ((ma_up_n (by omega)).trans v1), (ma_up_n (by omega)).trans ((ma_up_n (by omega)).trans v2)⟩
  · refine sb_kp (l := [b, g]) (kp_up (by simp) (kp_up (by simp) (kp_rf _ _))) (fun j j0 j1 => by simp; omega) (sb_kp kk (fun j j0 j1 => by simp; omega) hSB)
  · exact ⟨_, _, (ma_up_n (by omega)).trans ((ma_up_n (by omega)).trans a55), (ma_up_n (by omega)).trans ((ma_up_n (by omega)).trans a56)⟩
theorem plc_k {t kind tet u v : Int} (ht : 0 ≤ t ∧ t ≤ 8) (hk : 0 ≤ kind ∧ kind < 4) : -1 ≤ plc t kind tet u v ∧ plc t kind tet u v < 200 ∧ (0 ≤ plc t kind tet u v → ((kind = 1 ∨ kind = 3) ↔ ((32 ≤ plc t kind tet u v ∧ plc t kind tet u v < 160) ∨ 168 ≤ plc t kind tet u v)) ∧ (¬ (kind = 1 ∨ kind = 3) → (0 ≤ plc t kind tet u v ∧ plc t kind tet u v < 32) ∨ (160 ≤ plc t kind tet u v ∧ plc t kind tet u v < 168))) := by
  unfold plc
  (repeat' split) <;> omega
theorem RF_in {t : Int} {G E P : Int → Int} {k : Int} : -3 ≤ RF t G E P k ∧ RF t G E P k ≤ 0 := by
  unfold RF R2 R1
  (repeat' split) <;> omega
theorem l_X1_attempt_37A {b g d : Nat} {t k kind : Int} {G E P : Int → Int} {Q : Option ma_V → ma_H → Nat → Prop} {h2 : ma_H} {x3 x4 x5 x7 : Option ma_V} (sb : b < 39 ∨ 58 < b) (sg : g < 39 ∨ 58 < g) (nbg : b ≠ g) (hS2 : SC h2) (hb2 : h2 b = co 8 [vi t, vr g]) (hg2 : h2 g = ci 32 G) (hG : VG t G) (hC : CN t G) (hk : 0 ≤ k ∧ k < 200) (hq : (0 ≤ k ∧ k < 32) ∨ (160 ≤ k ∧ k < 168)) (hB : (32 ≤ k ∧ k < 160) ∨ 168 ≤ k → BP t G E P) (KA : RF t G E P k < 0 → Q (some (vi (RF t G E P k))) h2 1000000) (KB : RF t G E P k = 0 → ∀ h' C L ties t1, t1 = t + gr k → MR t G k t1 C → LI t1 C L (24 * t1) ties → kp h2 h' (b :: g :: scl) → SC h' → h' b = co 8 [vi t1, vr g] → h' g = ci 32 (stl t1 C L) → Q (some (vi t1)) h' 1000000) : ma_J none mX1_attempt (d + 4) 0 0 37 [some (vr 54), some (vr b), some (vi kind), x3, x4, x5, some (vi k), x7] [] h2 1000000 Q := by
  have hm2 := hS2.1
  refine ma_aload_n dX1_attempt_37 rfl ?_
  refine ma_aload_n dX1_attempt_38 rfl ?_
  refine ma_iload dX1_attempt_39 rfl ?_
  refine ma_cV [_, _] dX1_attempt_41 wX1_refusal lX1_43 iX1_refusal sX1_refusal rfl (by assumption) (Nat.le_of_ble_eq_true rfl) ?_
  refine c_X1_refusalA (E := E) (P := P) hb2 hg2 hm2 hG hq ?_
  have rf := RF_in (t := t) (G := G) (E := E) (P := P) (k := k)
  refine ma_istoreN dX1_attempt_44 (by decide) rfl ?_
  refine ma_iload dX1_attempt_46 rfl ?_
  refine ma_rif_ge 54 dX1_attempt_48 rfl (by constructor <;> omega) (fun c48 => ?_) (fun c48 => ?_)
  · -- 54
    exact l_X1_attempt_54 sb sg nbg hS2 hb2 hg2 hG hC hk (by omega) hB (KB (by omega))
  · -- 51
    refine ma_iload dX1_attempt_51 rfl ?_
    exact ma_iret dX1_attempt_53 rfl (KA (by omega))
theorem l_X1_attempt_37B {b g d : Nat} {t k kind : Int} {G E P : Int → Int} {Q : Option ma_V → ma_H → Nat → Prop} {h : ma_H} {q : Int → Int} {x3 x4 x5 x7 : Option ma_V} (sb : b < 39 ∨ 58 < b) (sg : g < 39 ∨ 58 < g) (nbg : b ≠ g) (hS : SC h) (hb : h b = co 8 [vi t, vr g]) (hg : h g = ci 32 G) (hG : VG t G) (hC : CN t G) (hk : 0 ≤ k ∧ k < 200) (hB : BP t G E P) (KA : RF t G E P k < 0 → Q (some (vi (RF t G E P k))) (br h t G E P q) 1000000) (KB : RF t G E P k = 0 → ∀ h' C L ties t1, t1 = t + gr k → MR t G k t1 C → LI t1 C L (24 * t1) ties → kp (br h t G E P q) h' (b :: g :: scl) → SC h' → h' b = co 8 [vi t1, vr g] → h' g = ci 32 (stl t1 C L) → Q (some (vi t1)) h' 1000000) : ma_J none mX1_attempt (d + 4) 0 0 37 [some (vr 54), some (vr b), some (vi kind), x3, x4, x5, some (vi k), x7] [] (br h t G E P q) 1000000 Q := by
  have hm := hS.1
  refine ma_aload_n dX1_attempt_37 rfl ?_
  refine ma_aload_n dX1_attempt_38 rfl ?_
  refine ma_iload dX1_attempt_39 rfl ?_
  refine ma_cV [_, _] dX1_attempt_41 wX1_refusal lX1_43 iX1_refusal sX1_refusal rfl (by exact (bh_n (by omega)).trans (by assumption)) (Nat.le_of_ble_eq_true rfl) ?_
  refine c_X1_refusal hb hg (by omega) (by omega) hG hm hB (by omega) ?_
  have rf := RF_in (t := t) (G := G) (E := E) (P := P) (k := k)
  refine ma_istoreN dX1_attempt_44 (by decide) rfl ?_
  refine ma_iload dX1_attempt_46 rfl ?_
  refine ma_rif_ge 54 dX1_attempt_48 rfl (by constructor <;> omega) (fun c48 => ?_) (fun c48 => ?_)
  · -- 54
    exact l_X1_attempt_54 sb sg nbg (sc_bh hS) ((bh_n (by omega)).trans hb) ((bh_n (by omega)).trans hg) hG hC hk (by omega) (fun _ => hB) (KB (by omega))
  · -- 51
    refine ma_iload dX1_attempt_51 rfl ?_
    exact ma_iret dX1_attempt_53 rfl (KA (by omega))
set_option maxHeartbeats 2000000 in
theorem c_X1_attempt {h : ma_H} {b g d : Nat} {t kind tet u v : Int} {G : Int → Int} {Q : Option ma_V → ma_H → Nat → Prop} (sb : b < 39 ∨ 58 < b) (sg : g < 39 ∨ 58 < g) (nbg : b ≠ g) (hS : SC h) (hb : h b = co 8 [vi t, vr g]) (hg : h g = ci 32 G) (hG : VG t G) (hC : CN t G) (hkd : 0 ≤ kind ∧ kind < 4) (r1 : rg tet) (r2 : rg u) (r3 : rg v) (K1 : plc t kind tet u v < 0 → Q (some (vi (-1))) h 1000000) (K2 : ∀ h' E P, 0 ≤ plc t kind tet u v → (kind = 1 ∨ kind = 3 → BP t G E P) → RF t G E P (plc t kind tet u v) < 0 → kp h h' (b :: g :: scl) → SC h' → h' b = co 8 [vi t, vr g] → h' g = ci 32 G → Q (some (vi (RF t G E P (plc t kind tet u v)))) h' 1000000) (K3 : ∀ h' E P C L ties t1, 0 ≤ plc t kind tet u v → (kind = 1 ∨ kind = 3 → BP t G E P) → RF t G E P (plc t kind tet u v) = 0 → t1 = t + gr (plc t kind tet u v) → MR t G (plc t kind tet u v) t1 C → LI t1 C L (24 * t1) ties → kp h h' (b :: g :: scl) → SC h' → h' b = co 8 [vi t1, vr g] → h' g = ci 32 (stl t1 C L) → Q (some (vi t1)) h' 1000000) : ma_Ct mX1_attempt (d + 4) 0 0 [vr 54, vr b, vi kind, vi tet, vi u, vi v] h 1000000 Q := by
  have ht := hG.1
  obtain ⟨hp0, hp1, hp2⟩ := plc_k (tet := tet) (u := u) (v := v) (show 0 ≤ t ∧ t ≤ 8 by omega) hkd
  have hm := hS.1
  obtain ⟨E0, X0, D0, F0, P0, Z0, N0, S0, q0, ec, pc, a45, a46, a47, a48, a49, a50, a51, a52, a53, a44⟩ := hS.2.2.2.2.1
  refine ma_Ct.of (by decide +kernel) (Nat.le_of_ble_eq_true rfl) ?_
  refine ma_aload_n dX1_attempt_0 rfl ?_
  refine ma_iload_n dX1_attempt_1 rfl ?_
  refine ma_iload_n dX1_attempt_2 rfl ?_
  refine ma_iload dX1_attempt_3 rfl ?_
  refine ma_iload dX1_attempt_5 rfl ?_
  refine ma_cS [_, _, _, _, _] dX1_attempt_7 wX1_placeOf lX1_33 tX1_placeOf (Nat.le_of_ble_eq_true rfl) ?_
  refine c_X1_placeOf hb (by omega) hkd r1 r2 r3 ?_
  refine ma_istoreN dX1_attempt_10 (by decide) rfl ?_
  refine ma_iload dX1_attempt_12 rfl ?_
  refine ma_rif_ge 19 dX1_attempt_14 rfl (by constructor <;> omega) (fun c14 => ?_) (fun c14 => ?_)
  · -- 19
    refine ma_iload_n dX1_attempt_19 rfl ?_
    refine ma_iconst dX1_attempt_20 ?_
    refine ma_rcmp_eq 29 dX1_attempt_21 rfl (by constructor <;> omega) (by constructor <;> omega) (fun c21 => ?_) (fun c21 => ?_)
    · -- 29
      refine ma_aload_n dX1_attempt_29 rfl ?_
      refine ma_getf dX1_attempt_30 fX1_25 (by assumption) (by rfl) ?_
      refine ma_aload_n dX1_attempt_33 rfl ?_
      refine ma_cV [_] dX1_attempt_34 wX7_read lX1_37 iX7_read sX7_read rfl (by assumption) (Nat.le_of_ble_eq_true rfl) ?_
      rw [bh_of a45 a46 a47 a48 a49 a50 a51 a52 a53 a44]
      refine c_X7_read hb hg (by omega) (by omega) hG (fun E P q hB => ?_)
      exact l_X1_attempt_37B sb sg nbg hS hb hg hG hC (by omega) hB (fun z => K2 _ E P (by omega) (fun _ => hB) z (kp_mo (fun x hx => List.mem_cons_of_mem _ (List.mem_cons_of_mem _ hx)) kp_bh) (sc_bh hS) ((bh_n (by omega)).trans hb) ((bh_n (by omega)).trans hg)) (fun z h' C L ties t1 e mr li kk sc1 c1 c2 => K3 h' E P C L ties t1 (by omega) (fun _ => hB) z e mr li (kp_tr (kp_mo (fun x hx => List.mem_cons_of_mem _ (List.mem_cons_of_mem _ hx)) kp_bh) kk) sc1 c1 c2)
    · -- 24
      refine ma_iload_n dX1_attempt_24 rfl ?_
      refine ma_iconst dX1_attempt_25 ?_
      refine ma_rcmp_ne 37 dX1_attempt_26 rfl (by constructor <;> omega) (by constructor <;> omega) (fun c26 => ?_) (fun c26 => ?_)
      · -- 37
        exact l_X1_attempt_37A (E := fun _ => 0) (P := fun _ => 0) sb sg nbg hS hb hg hG hC (by omega) ((hp2 (by omega)).2 (by omega)) (fun z => absurd ((hp2 (by omega)).1.mpr z) (by omega)) (fun z => K2 h _ _ (by omega) (fun w => absurd w (by omega)) z (kp_rf _ _) hS hb hg) (fun z h' C L ties t1 e mr li kk sc1 c1 c2 => K3 h' _ _ C L ties t1 (by omega) (fun w => absurd w (by omega)) z e mr li kk sc1 c1 c2)
      · -- 29
        refine ma_aload_n dX1_attempt_29 rfl ?_
        refine ma_getf dX1_attempt_30 fX1_25 (by assumption) (by rfl) ?_
        refine ma_aload_n dX1_attempt_33 rfl ?_
        refine ma_cV [_] dX1_attempt_34 wX7_read lX1_37 iX7_read sX7_read rfl (by assumption) (Nat.le_of_ble_eq_true rfl) ?_
        rw [bh_of a45 a46 a47 a48 a49 a50 a51 a52 a53 a44]
        refine c_X7_read hb hg (by omega) (by omega) hG (fun E P q hB => ?_)
        exact l_X1_attempt_37B sb sg nbg hS hb hg hG hC (by omega) hB (fun z => K2 _ E P (by omega) (fun _ => hB) z (kp_mo (fun x hx => List.mem_cons_of_mem _ (List.mem_cons_of_mem _ hx)) kp_bh) (sc_bh hS) ((bh_n (by omega)).trans hb) ((bh_n (by omega)).trans hg)) (fun z h' C L ties t1 e mr li kk sc1 c1 c2 => K3 h' E P C L ties t1 (by omega) (fun _ => hB) z e mr li (kp_tr (kp_mo (fun x hx => List.mem_cons_of_mem _ (List.mem_cons_of_mem _ hx)) kp_bh) kk) sc1 c1 c2)
  · -- 17
    refine ma_iconst dX1_attempt_17 ?_
    exact ma_iret dX1_attempt_18 rfl (K1 (by omega))
