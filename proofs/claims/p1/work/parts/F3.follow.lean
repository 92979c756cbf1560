/-- a trail that is followed: r steps are left, the next is i -/
def FOL (S : Int → Int) : Nat → Int → Int → (Int → Int) → Int → Int → (Int → Int) → Prop
  | 0, i, t, G, e', t', G' => t' = t ∧ G' = G ∧ e' = i
  | r + 1, i, t, G, e', t', G' => (¬ (0 ≤ plc t (S (4 * i)) (S (4 * i + 1)) (S (4 * i + 2)) (S (4 * i + 3)) ∧ RFE t G (S (4 * i)) (plc t (S (4 * i)) (S (4 * i + 1)) (S (4 * i + 2)) (S (4 * i + 3)))) ∧ t' = t ∧ G' = G ∧ e' = i) ∨ ((0 ≤ plc t (S (4 * i)) (S (4 * i + 1)) (S (4 * i + 2)) (S (4 * i + 3)) ∧ RFE t G (S (4 * i)) (plc t (S (4 * i)) (S (4 * i + 1)) (S (4 * i + 2)) (S (4 * i + 3)))) ∧ ∃ t1 G1, STP t G (plc t (S (4 * i)) (S (4 * i + 1)) (S (4 * i + 2)) (S (4 * i + 3))) t1 G1 ∧ FOL S r (i + 1) t1 G1 e' t' G')
theorem fol_ok (S : Int → Int) : ∀ (r : Nat) {i t e' t' : Int} {G G' : Int → Int}, VG t G → CN t G → FOL S r i t G e' t' G' → VG t' G' ∧ CN t' G' ∧ i ≤ e' ∧ e' ≤ i + r
  | 0, i, t, e', t', G, G', hG, hC, h => by
    obtain ⟨a, b, c⟩ := h
    subst a b c
    exact ⟨hG, hC, by omega, by omega⟩
  | r + 1, i, t, e', t', G, G', hG, hC, h => by
    rcases h with ⟨-, a, b, c⟩ | ⟨-, t1, G1, st, h⟩
    · subst a b c
      exact ⟨hG, hC, by omega, by omega⟩
    · have q := stp_ok hG hC st
      have z := fol_ok S r q.1 q.2 h
      exact ⟨z.1, z.2.1, by omega, by omega⟩
set_option maxHeartbeats 2000000 in
theorem l_fw2 {b g d : Nat} {q0 n : Int} {S : Int → Int} {r1 r2 : ma_V} {Q : Option ma_V → ma_H → Nat → Prop} (sb : (b < 39 ∨ 58 < b) ∧ b ≠ 0 ∧ b ≠ 33 ∧ b ≠ 35) (sg : (g < 39 ∨ 58 < g) ∧ g ≠ 0 ∧ g ≠ 33 ∧ g ≠ 35) (bg : b ≠ g) (hn : 0 ≤ n ∧ n ≤ 40) (hv : ∀ i, 0 ≤ i → i < n → (0 ≤ S (4 * i) ∧ S (4 * i) < 4) ∧ rg (S (4 * i + 1)) ∧ rg (S (4 * i + 2)) ∧ rg (S (4 * i + 3))) :
    ∀ (r : Nat) (i : Int) (h : ma_H) (t : Int) (G : Int → Int) (w3 w4 : Option ma_V), 0 ≤ i → i + r = n → h 0 = co 11 (xo q0) → h 33 = co 5 [r1, r2, vi n, vr 35] → h 35 = ci 160 S → SC h → h b = co 8 [vi t, vr g] → h g = ci 32 G → VG t G → CN t G → (∀ h' e' t' G', FOL S r i t G e' t' G' → kp h h' (b :: g :: scl) → SC h' → h' b = co 8 [vi t', vr g] → h' g = ci 32 G' → Q (some (vi e')) h' 1000000) → ma_J none mX11_follow (d + 5) 0 0 2 [some (vr 0), some (vr b), some (vi i), w3, w4] [] h 1000000 Q := by
  intro r
  induction r with
  | zero =>
    intro i h t G w3 w4 i0 ir hx h33 h35 hS hb hg hG hC K
    refine ma_iload_n dX11_follow_2 rfl ?_
    refine ma_aload_n dX11_follow_3 rfl ?_
    refine ma_getf dX11_follow_4 fX11_47 (by first | assumption | exact hS.1) (by rfl) ?_
    refine ma_getf dX11_follow_7 fX11_259 (by first | assumption | exact hS.1) (by rfl) ?_
    refine ma_rcmp_ge 70 dX11_follow_10 rfl (by constructor <;> omega) (by constructor <;> omega) (fun c10 => ?_) (fun c10 => ?_)
    · -- 70
      refine ma_aload_n dX11_follow_70 rfl ?_
      refine ma_getf dX11_follow_71 fX11_47 (by first | assumption | exact hS.1) (by rfl) ?_
      refine ma_getf dX11_follow_74 fX11_259 (by first | assumption | exact hS.1) (by rfl) ?_
      exact ma_iret dX11_follow_77 rfl (K h n t G ⟨rfl, rfl, by omega⟩ (kp_rf _ _) hS hb hg)
    · -- 13
      exact absurd c10 (by omega)
  | succ r ih =>
    intro i h t G w3 w4 i0 ir hx h33 h35 hS hb hg hG hC K
    have ht := hG.1
    refine ma_iload_n dX11_follow_2 rfl ?_
    refine ma_aload_n dX11_follow_3 rfl ?_
    refine ma_getf dX11_follow_4 fX11_47 (by first | assumption | exact hS.1) (by rfl) ?_
    refine ma_getf dX11_follow_7 fX11_259 (by first | assumption | exact hS.1) (by rfl) ?_
    refine ma_rcmp_ge 70 dX11_follow_10 rfl (by constructor <;> omega) (by constructor <;> omega) (fun c10 => ?_) (fun c10 => ?_)
    · -- 70
      exact absurd c10 (by omega)
    · -- 13
      refine ma_aload_n dX11_follow_13 rfl ?_
      refine ma_getf dX11_follow_14 fX11_47 (by first | assumption | exact hS.1) (by rfl) ?_
      refine ma_getf dX11_follow_17 fX11_265 (by first | assumption | exact hS.1) (by rfl) ?_
      refine ma_astore_nN dX11_follow_20 (by decide) rfl ?_
      refine ma_aload_n dX11_follow_21 rfl ?_
      refine ma_getf dX11_follow_22 fX11_77 (by first | assumption | exact hS.1) (by rfl) ?_
      refine ma_aload_n dX11_follow_25 rfl ?_
      refine ma_aload_n dX11_follow_26 rfl ?_
      refine ma_iconst dX11_follow_27 ?_
      refine ma_iload_n dX11_follow_28 rfl ?_
      refine ma_imul dX11_follow_29 ?_
      refine ma_iald dX11_follow_30 (by first | assumption | exact hS.1) (by omega) (by omega) (by omega) ?_
      refine ma_aload_n dX11_follow_31 rfl ?_
      refine ma_iconst dX11_follow_32 ?_
      refine ma_iload_n dX11_follow_33 rfl ?_
      refine ma_imul dX11_follow_34 ?_
      refine ma_iconst dX11_follow_35 ?_
      refine ma_iadd dX11_follow_36 ?_
      refine ma_iald dX11_follow_37 (by first | assumption | exact hS.1) (by omega) (by omega) (by omega) ?_
      refine ma_aload_n dX11_follow_38 rfl ?_
      refine ma_iconst dX11_follow_39 ?_
      refine ma_iload_n dX11_follow_40 rfl ?_
      refine ma_imul dX11_follow_41 ?_
      refine ma_iconst dX11_follow_42 ?_
      refine ma_iadd dX11_follow_43 ?_
      refine ma_iald dX11_follow_44 (by first | assumption | exact hS.1) (by omega) (by omega) (by omega) ?_
      refine ma_aload_n dX11_follow_45 rfl ?_
      refine ma_iconst dX11_follow_46 ?_
      refine ma_iload_n dX11_follow_47 rfl ?_
      refine ma_imul dX11_follow_48 ?_
      refine ma_iconst dX11_follow_49 ?_
      refine ma_iadd dX11_follow_50 ?_
      refine ma_iald dX11_follow_51 (by first | assumption | exact hS.1) (by omega) (by omega) (by omega) ?_
      refine ma_cV [_, _, _, _, _] dX11_follow_52 wX1_attempt lX11_249 iX1_attempt sX1_attempt rfl (by first | assumption | exact hS.1) (Nat.le_of_ble_eq_true rfl) ?_
      refine c_X1_attempt sb.1 sg.1 bg hS hb hg hG hC (hv i i0 (by omega)).1 (hv i i0 (by omega)).2.1 (hv i i0 (by omega)).2.2.1 (hv i i0 (by omega)).2.2.2 (fun hk => ?_) (fun h' E P hk hB hR k1 k2 k3 k4 => ?_) (fun h' E P C L ties t1 hk hB hR et hm hl k1 k2 k3 k4 => ?_)
      · have q : ma_J none mX11_follow (d + 5) 0 0 55 [some (vr 0), some (vr b), some (vi i), some (vr 35), w4] [vi (-1)] h 1000000 Q := by
          refine ma_istoreN dX11_follow_55 (by decide) rfl ?_
          refine ma_iload dX11_follow_57 rfl ?_
          refine ma_rif_ge 64 dX11_follow_59 rfl (by constructor <;> omega) (fun c59 => absurd c59 (by omega)) (fun c59 => ?_)
          refine ma_iload_n dX11_follow_62 rfl ?_
          exact ma_iret dX11_follow_63 rfl (K h i t G (Or.inl ⟨fun z => by have q := z.1; omega, rfl, rfl, rfl⟩) (kp_rf _ _) hS hb hg)
        exact q
      · have rb := RF_in (t := t) (G := G) (E := E) (P := P) (k := (plc t (S (4 * i)) (S (4 * i + 1)) (S (4 * i + 2)) (S (4 * i + 3))))
        refine ma_istoreN dX11_follow_55 (by decide) rfl ?_
        refine ma_iload dX11_follow_57 rfl ?_
        refine ma_rif_ge 64 dX11_follow_59 rfl (by constructor <;> omega) (fun c59 => absurd c59 (by omega)) (fun c59 => ?_)
        refine ma_iload_n dX11_follow_62 rfl ?_
        exact ma_iret dX11_follow_63 rfl (K h' i t G (Or.inl ⟨fun z => rfe_un hG (hv i i0 (by omega)).1 hk hB hR z.2, rfl, rfl, rfl⟩) k1 k2 k3 k4)
      · have vv := stp_ok hG hC (k := (plc t (S (4 * i)) (S (4 * i + 1)) (S (4 * i + 2)) (S (4 * i + 3)))) (t1 := t1) (G1 := stl t1 C L) ⟨et, C, L, ties, hm, hl, rfl⟩
        have vb := vv.1.1
        refine ma_istoreN dX11_follow_55 (by decide) rfl ?_
        refine ma_iload dX11_follow_57 rfl ?_
        refine ma_rif_ge 64 dX11_follow_59 rfl (by constructor <;> omega) (fun c59 => ?_) (fun c59 => absurd c59 (by omega))
        refine ma_iincN dX11_follow_64 rfl (by decide) rfl ?_
        refine ma_goto 2 dX11_follow_67 rfl ?_
        refine ih (i + 1) h' t1 _ _ _ (by omega) (by omega) ((k1 0 (by simp; omega)).trans hx) ((k1 33 (by simp; omega)).trans h33) ((k1 35 (by simp; omega)).trans h35) k2 k3 k4 vv.1 vv.2 (fun h'' e' t' G' hf kk c1 c2 c3 => K h'' e' t' G' (Or.inr ⟨⟨hk, ⟨E, P, hB, hR⟩⟩, t1, _, ⟨et, C, L, ties, hm, hl, rfl⟩, hf⟩) (kp_tr k1 kk) c1 c2 c3)
theorem c_X11_follow {h : ma_H} {b g d : Nat} {q0 n t : Int} {S G : Int → Int} {r1 r2 : ma_V} {Q : Option ma_V → ma_H → Nat → Prop} (sb : (b < 39 ∨ 58 < b) ∧ b ≠ 0 ∧ b ≠ 33 ∧ b ≠ 35) (sg : (g < 39 ∨ 58 < g) ∧ g ≠ 0 ∧ g ≠ 33 ∧ g ≠ 35) (bg : b ≠ g) (hn : 0 ≤ n ∧ n ≤ 40) (hv : ∀ i, 0 ≤ i → i < n → (0 ≤ S (4 * i) ∧ S (4 * i) < 4) ∧ rg (S (4 * i + 1)) ∧ rg (S (4 * i + 2)) ∧ rg (S (4 * i + 3))) (hx : h 0 = co 11 (xo q0)) (h33 : h 33 = co 5 [r1, r2, vi n, vr 35]) (h35 : h 35 = ci 160 S) (hS : SC h) (hb : h b = co 8 [vi t, vr g]) (hg : h g = ci 32 G) (hG : VG t G) (hC : CN t G) (K : (∀ h' e' t' G', FOL S n.toNat 0 t G e' t' G' → kp h h' (b :: g :: scl) → SC h' → h' b = co 8 [vi t', vr g] → h' g = ci 32 G' → Q (some (vi e')) h' 1000000)) : ma_Ct mX11_follow (d + 5) 0 0 [vr 0, vr b] h 1000000 Q := by
  refine ma_Ct.of (by decide +kernel) (Nat.le_of_ble_eq_true rfl) ?_
  refine ma_iconst dX11_follow_0 ?_
  refine ma_istore_nN dX11_follow_1 (by decide) rfl ?_
  exact l_fw2 sb sg bg hn hv n.toNat 0 h t G _ _ (by decide) (by omega) hx h33 h35 hS hb hg hG hC K
