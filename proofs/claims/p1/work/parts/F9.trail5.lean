set_option maxHeartbeats 2000000 in
theorem l_gt13 {nx d : Nat} {n e' t' : Int} {A G' : Int → Int} {Q : Option ma_V → ma_H → Nat → Prop} (hn : 0 ≤ n ∧ n ≤ 40) (hv : ∀ i, 0 ≤ i → i < n → (0 ≤ A (4 * i) ∧ A (4 * i) < 4) ∧ rg (A (4 * i + 1)) ∧ rg (A (4 * i + 2)) ∧ rg (A (4 * i + 3))) :
    ∀ (r : Nat) (i : Int) (h : ma_H) (I : Nat → Int) (W : Int → Int) (t : Int) (G : Int → Int), 0 ≤ i → i + r = n → h 73 = co 12 (mo I) → SMO h → h 100 = ci 33 W → h 101 = ci 320 A → I 43 = n → VG t G → CN t G → AG t G W → FOL A r i t G e' t' G' → (∀ h' I' W', kp h h' (100 :: mvl) → h' 73 = co 12 (mo I') → KI I I' → SMO h' → h' 100 = ci 33 W' → AG t' G' W' → Q (some (vi e')) h' nx) → ma_J none mX12_goTrail (d + 7) 0 0 13 [some (vr 73), some (vi i)] [] h nx Q := by
  intro r
  induction r with
  | zero =>
    intro i h I W t G i0 ir hM hS h100 h101 e43 hG hC hA hf K
    refine ma_iload_n dX12_goTrail_13 rfl ?_
    refine ma_aload_n dX12_goTrail_14 rfl ?_
    refine ma_getf dX12_goTrail_15 fX12_448 (by first | exact hM | exact h100 | exact h101) (by rfl) ?_
    rw [e43]
    refine ma_rcmp_ge 76 dX12_goTrail_18 rfl (by constructor <;> omega) (by constructor <;> omega) (fun c18 => ?_) (fun c18 => ?_)
    · -- 76
      refine ma_iload_n dX12_goTrail_76 rfl ?_
      obtain ⟨z1, z2, z3⟩ := hf
      subst z1 z2 z3
      exact ma_iret dX12_goTrail_77 rfl (K h I W (kp_rf _ _) hM (fun _ _ _ _ => rfl) hS h100 hA)
    · -- 21
      exact absurd c18 (by omega)
  | succ r ih =>
    intro i h I W t G i0 ir hM hS h100 h101 e43 hG hC hA hf K
    have ht := hG.1
    rcases hf with ⟨nf, z1, z2, z3⟩ | ⟨yf, t1, G1, st, hf⟩
    · subst z1 z2 z3
      refine ma_iload_n dX12_goTrail_13 rfl ?_
      refine ma_aload_n dX12_goTrail_14 rfl ?_
      refine ma_getf dX12_goTrail_15 fX12_448 (by first | exact hM | exact h100 | exact h101) (by rfl) ?_
      rw [e43]
      refine ma_rcmp_ge 76 dX12_goTrail_18 rfl (by constructor <;> omega) (by constructor <;> omega) (fun c18 => ?_) (fun c18 => ?_)
      · -- 76
        exact absurd c18 (by omega)
      · -- 21
        refine ma_aload_n dX12_goTrail_21 rfl ?_
        refine ma_aload_n dX12_goTrail_22 rfl ?_
        refine ma_getf dX12_goTrail_23 fX12_90 (by first | exact hM | exact h100 | exact h101) (by rfl) ?_
        refine ma_aload_n dX12_goTrail_26 rfl ?_
        refine ma_getf dX12_goTrail_27 fX12_93 (by first | exact hM | exact h100 | exact h101) (by rfl) ?_
        refine ma_iconst dX12_goTrail_30 ?_
        refine ma_iload_n dX12_goTrail_31 rfl ?_
        refine ma_imul dX12_goTrail_32 ?_
        refine ma_iald dX12_goTrail_33 (by first | exact hM | exact h100 | exact h101) (by omega) (by omega) (by omega) ?_
        refine ma_aload_n dX12_goTrail_34 rfl ?_
        refine ma_getf dX12_goTrail_35 fX12_93 (by first | exact hM | exact h100 | exact h101) (by rfl) ?_
        refine ma_iconst dX12_goTrail_38 ?_
        refine ma_iload_n dX12_goTrail_39 rfl ?_
        refine ma_imul dX12_goTrail_40 ?_
        refine ma_iconst dX12_goTrail_41 ?_
        refine ma_iadd dX12_goTrail_42 ?_
        refine ma_iald dX12_goTrail_43 (by first | exact hM | exact h100 | exact h101) (by omega) (by omega) (by omega) ?_
        refine ma_aload_n dX12_goTrail_44 rfl ?_
        refine ma_getf dX12_goTrail_45 fX12_93 (by first | exact hM | exact h100 | exact h101) (by rfl) ?_
        refine ma_iconst dX12_goTrail_48 ?_
        refine ma_iload_n dX12_goTrail_49 rfl ?_
        refine ma_imul dX12_goTrail_50 ?_
        refine ma_iconst dX12_goTrail_51 ?_
        refine ma_iadd dX12_goTrail_52 ?_
        refine ma_iald dX12_goTrail_53 (by first | exact hM | exact h100 | exact h101) (by omega) (by omega) (by omega) ?_
        refine ma_aload_n dX12_goTrail_54 rfl ?_
        refine ma_getf dX12_goTrail_55 fX12_93 (by first | exact hM | exact h100 | exact h101) (by rfl) ?_
        refine ma_iconst dX12_goTrail_58 ?_
        refine ma_iload_n dX12_goTrail_59 rfl ?_
        refine ma_imul dX12_goTrail_60 ?_
        refine ma_iconst dX12_goTrail_61 ?_
        refine ma_iadd dX12_goTrail_62 ?_
        refine ma_iald dX12_goTrail_63 (by first | exact hM | exact h100 | exact h101) (by omega) (by omega) (by omega) ?_
        refine ma_cV [_, _, _, _, _] dX12_goTrail_64 wX12_goMove lX12_440 iX12_goMove sX12_goMove rfl (by first | exact hM | exact h100 | exact h101) (Nat.le_of_ble_eq_true rfl) ?_
        refine c_X12_goMove hM hS h100 (by decide) (Or.inl (by decide)) hG hC hA (hv e' i0 (by omega)).1 (hv e' i0 (by omega)).2.1 (hv e' i0 (by omega)).2.2.1 (hv e' i0 (by omega)).2.2.2 (t1 := t') (G1 := G') (fun a b => ?_) (fun a => ?_) (fun a E P b c h' I' m1 m2 => ?_) (fun a b h' I' A' m1 m2 m3 => ?_)
        · exact absurd ⟨a, b⟩ nf
        · -- no place
          refine ma_rif_ne 76 dX12_goTrail_67 rfl (by decide) (fun c67 => ?_) (fun c67 => absurd c67 (by decide))
          have q : ma_J none mX12_goTrail (d + 7) 0 0 76 [some (vr 73), some (vi e')] [] h nx Q := by
            refine ma_iload_n dX12_goTrail_76 rfl ?_
            exact ma_iret dX12_goTrail_77 rfl (K h I W (kp_rf _ _) hM (fun _ _ _ _ => rfl) hS h100 hA)
          exact q
        · have rb := RF_in (t := t') (G := G') (E := E) (P := P) (k := (plc t' (A (4 * e')) (A (4 * e' + 1)) (A (4 * e' + 2)) (A (4 * e' + 3))))
          refine ma_rif_ne 76 dX12_goTrail_67 rfl (by constructor <;> omega) (fun c67 => ?_) (fun c67 => absurd c67 (by omega))
          have q : ma_J none mX12_goTrail (d + 7) 0 0 76 [some (vr 73), some (vi e')] [] h' nx Q := by
            refine ma_iload_n dX12_goTrail_76 rfl ?_
            exact ma_iret dX12_goTrail_77 rfl (K h' I' W m1.1 m1.2.1 m1.2.2.1 m1.2.2.2 m2 hA)
          exact q
        · exact absurd ⟨a, b⟩ nf
    · have vv := stp_ok hG hC st
      refine ma_iload_n dX12_goTrail_13 rfl ?_
      refine ma_aload_n dX12_goTrail_14 rfl ?_
      refine ma_getf dX12_goTrail_15 fX12_448 (by first | exact hM | exact h100 | exact h101) (by rfl) ?_
      rw [e43]
      refine ma_rcmp_ge 76 dX12_goTrail_18 rfl (by constructor <;> omega) (by constructor <;> omega) (fun c18 => ?_) (fun c18 => ?_)
      · -- 76
        exact absurd c18 (by omega)
      · -- 21
        refine ma_aload_n dX12_goTrail_21 rfl ?_
        refine ma_aload_n dX12_goTrail_22 rfl ?_
        refine ma_getf dX12_goTrail_23 fX12_90 (by first | exact hM | exact h100 | exact h101) (by rfl) ?_
        refine ma_aload_n dX12_goTrail_26 rfl ?_
        refine ma_getf dX12_goTrail_27 fX12_93 (by first | exact hM | exact h100 | exact h101) (by rfl) ?_
        refine ma_iconst dX12_goTrail_30 ?_
        refine ma_iload_n dX12_goTrail_31 rfl ?_
        refine ma_imul dX12_goTrail_32 ?_
        refine ma_iald dX12_goTrail_33 (by first | exact hM | exact h100 | exact h101) (by omega) (by omega) (by omega) ?_
        refine ma_aload_n dX12_goTrail_34 rfl ?_
        refine ma_getf dX12_goTrail_35 fX12_93 (by first | exact hM | exact h100 | exact h101) (by rfl) ?_
        refine ma_iconst dX12_goTrail_38 ?_
        refine ma_iload_n dX12_goTrail_39 rfl ?_
        refine ma_imul dX12_goTrail_40 ?_
        refine ma_iconst dX12_goTrail_41 ?_
        refine ma_iadd dX12_goTrail_42 ?_
        refine ma_iald dX12_goTrail_43 (by first | exact hM | exact h100 | exact h101) (by omega) (by omega) (by omega) ?_
        refine ma_aload_n dX12_goTrail_44 rfl ?_
        refine ma_getf dX12_goTrail_45 fX12_93 (by first | exact hM | exact h100 | exact h101) (by rfl) ?_
        refine ma_iconst dX12_goTrail_48 ?_
        refine ma_iload_n dX12_goTrail_49 rfl ?_
        refine ma_imul dX12_goTrail_50 ?_
        refine ma_iconst dX12_goTrail_51 ?_
        refine ma_iadd dX12_goTrail_52 ?_
        refine ma_iald dX12_goTrail_53 (by first | exact hM | exact h100 | exact h101) (by omega) (by omega) (by omega) ?_
        refine ma_aload_n dX12_goTrail_54 rfl ?_
        refine ma_getf dX12_goTrail_55 fX12_93 (by first | exact hM | exact h100 | exact h101) (by rfl) ?_
        refine ma_iconst dX12_goTrail_58 ?_
        refine ma_iload_n dX12_goTrail_59 rfl ?_
        refine ma_imul dX12_goTrail_60 ?_
        refine ma_iconst dX12_goTrail_61 ?_
        refine ma_iadd dX12_goTrail_62 ?_
        refine ma_iald dX12_goTrail_63 (by first | exact hM | exact h100 | exact h101) (by omega) (by omega) (by omega) ?_
        refine ma_cV [_, _, _, _, _] dX12_goTrail_64 wX12_goMove lX12_440 iX12_goMove sX12_goMove rfl (by first | exact hM | exact h100 | exact h101) (Nat.le_of_ble_eq_true rfl) ?_
        refine c_X12_goMove hM hS h100 (by decide) (Or.inl (by decide)) hG hC hA (hv i i0 (by omega)).1 (hv i i0 (by omega)).2.1 (hv i i0 (by omega)).2.2.1 (hv i i0 (by omega)).2.2.2 (t1 := t1) (G1 := G1) (fun a b => ?_) (fun a => ?_) (fun a E P b c h' I' m1 m2 => ?_) (fun a b h' I' A' m1 m2 m3 => ?_)
        · exact st
        · exact absurd yf.1 (by omega)
        · exact absurd yf.2 (fun z => rfe_un hG (hv i i0 (by omega)).1 a b c z)
        · -- done
          refine ma_rif_ne 76 dX12_goTrail_67 rfl (by decide) (fun c67 => absurd c67 (by decide)) (fun c67 => ?_)
          refine ma_iincN dX12_goTrail_70 rfl (by decide) rfl ?_
          refine ma_goto 13 dX12_goTrail_73 rfl ?_
          exact ih (i + 1) h' I' A' _ _ (by omega) (by omega) m1.2.1 m1.2.2.2 m2 ((m1.1 101 (by decide)).trans h101) ((m1.2.2.1 43 (by decide) (by decide) (by decide)).trans e43) vv.1 vv.2 m3 hf (fun h'' I'' W' k1 k2 k3 k4 k5 k6 => K h'' I'' W' (kp_tr m1.1 k1) k2 (fun j a b c => (k3 j a b c).trans (m1.2.2.1 j a b c)) k4 k5 k6)
theorem c_X12_goTrail {h : ma_H} {nx d : Nat} {n t e' t' : Int} {I : Nat → Int} {A Aa W G G' : Int → Int} {Q : Option ma_V → ma_H → Nat → Prop} (hn : 0 ≤ n ∧ n ≤ 40) (hv : ∀ i, 0 ≤ i → i < n → (0 ≤ A (4 * i) ∧ A (4 * i) < 4) ∧ rg (A (4 * i + 1)) ∧ rg (A (4 * i + 2)) ∧ rg (A (4 * i + 3))) (hM : h 73 = co 12 (mo I)) (hS : SMO h) (h74 : h 74 = ci 33 Aa) (h100 : h 100 = ci 33 W) (h101 : h 101 = ci 320 A) (e43 : I 43 = n) (hG : VG t G) (hC : CN t G) (hA : AG t G Aa) (hf : FOL A n.toNat 0 t G e' t' G') (K : (∀ h' I' W', kp h h' (100 :: mvl) → h' 73 = co 12 (mo I') → KI I I' → SMO h' → h' 100 = ci 33 W' → AG t' G' W' → Q (some (vi e')) h' nx)) : ma_Ct mX12_goTrail (d + 7) 0 0 [vr 73] h nx Q := by
  refine ma_Ct.of (by decide +kernel) (Nat.le_of_ble_eq_true rfl) ?_
  refine ma_aload_n dX12_goTrail_0 rfl ?_
  refine ma_getf dX12_goTrail_1 fX12_9 (by first | exact hM | exact h100 | exact h101) (by rfl) ?_
  refine ma_aload_n dX12_goTrail_4 rfl ?_
  refine ma_getf dX12_goTrail_5 fX12_90 (by first | exact hM | exact h100 | exact h101) (by rfl) ?_
  refine ma_cS [_, _] dX12_goTrail_8 wX12_lay lX12_168 tX12_lay (Nat.le_of_ble_eq_true rfl) ?_
  refine c_X12_lay h74 h100 (by decide) ?_
  refine ma_iconst dX12_goTrail_11 ?_
  refine ma_istore_nN dX12_goTrail_12 (by decide) rfl ?_
  exact l_gt13 hn hv n.toNat 0 _ I Aa t G (by decide) (by omega) ((ma_up_n (by decide)).trans hM) (smo_n (by decide) (by decide) hS) (ma_up_s _ _ _) ((ma_up_n (by decide)).trans h101) e43 hG hC hA hf (fun h' I' W' k1 k2 k3 k4 k5 k6 => K h' I' W' (kp_tr (kp_up (by simp) (kp_rf _ _)) k1) k2 k3 k4 k5 k6)
theorem fol_cg {S S' : Int → Int} : ∀ (r : Nat) {i t e' t' : Int} {G G' : Int → Int}, (∀ j, 4 * i ≤ j → j < 4 * (i + r) → S j = S' j) → FOL S r i t G e' t' G' → FOL S' r i t G e' t' G'
  | 0, i, t, e', t', G, G', _, h => h
  | r + 1, i, t, e', t', G, G', hs, h => by
    have e0 := hs (4 * i) (by omega) (by omega)
    have e1 := hs (4 * i + 1) (by omega) (by omega)
    have e2 := hs (4 * i + 2) (by omega) (by omega)
    have e3 := hs (4 * i + 3) (by omega) (by omega)
    unfold FOL at h ⊢
    rw [← e0, ← e1, ← e2, ← e3]
    rcases h with h | ⟨a, t1, G1, b, c⟩
    · exact Or.inl h
    · exact Or.inr ⟨a, t1, G1, b, fol_cg r (fun j j0 j1 => hs j (by omega) (by omega)) c⟩
theorem at_ts {T S A : Int → Int} {n i : Int} (i0 : 0 ≤ i) (h : AT T n i A) : ∀ j, 4 * 0 ≤ j → j < 4 * (0 + (i.toNat : Int)) → ts T n S i.toNat j = A j := by
  intro j j0 j1
  have a := ts_at T n S i.toNat (j / 4).toNat (j % 4) (by omega) (by omega) (by omega)
  have b := h (j / 4).toNat (j % 4) (by omega) (by omega) (by omega)
  rw [show 4 * (((j / 4).toNat : Nat) : Int) + j % 4 = j by omega] at a b
  rw [a, b]
theorem at_v {T A : Int → Int} {n i : Int} (i0 : 0 ≤ i) (ok : TOK T n i) (h : AT T n i A) : ∀ j, 0 ≤ j → j < i → (0 ≤ A (4 * j) ∧ A (4 * j) < 4) ∧ rg (A (4 * j + 1)) ∧ rg (A (4 * j + 2)) ∧ rg (A (4 * j + 3)) := by
  intro j j0 j1
  have a := ts_v (S := A) i0 ok j j0 j1
  have e := at_ts (S := A) i0 h
  rw [e (4 * j) (by omega) (by omega), e (4 * j + 1) (by omega) (by omega), e (4 * j + 2) (by omega) (by omega), e (4 * j + 3) (by omega) (by omega)] at a
  exact a
