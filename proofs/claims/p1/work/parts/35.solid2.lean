/-- the glue behind j pairs -/
def rs (T : Int → Int) (n t : Int) : Nat → Int → Int
  | 0 => fun _ => -1
  | j + 1 => rj T n t (rs T n t j) (4 * (j : Int) + 1)
theorem rj_in {T : Int → Int} {n t x : Int} {G : Int → Int} (ht : 0 ≤ t ∧ t ≤ 8) (e : rf T n t G x = -1) (hx : 0 ≤ x) (hG : ∀ k, -1 ≤ G k ∧ G k < 256) (k : Int) : -1 ≤ rj T n t G x k ∧ rj T n t G x k < 256 := by
  have i1 := dg_in (T := T) (n := n) x ht.1
  have i2 := dg_in (T := T) (n := n) (x + 1) (show (0 : Int) ≤ 4 by omega)
  have i3 := dg_in (T := T) (n := n) (x + 2) ht.1
  unfold rf at e
  split at e
  · omega
  · split at e
    · omega
    · split at e
      · omega
      · split at e
        · omega
        · have i5 := iv_in (p := sg T n (x + 3) - 97) (by omega) (by omega)
          have := hG k
          unfold rj uf
          split
          · omega
          · split <;> omega
theorem rf_le {T : Int → Int} {n t x : Int} {G : Int → Int} (hx : 0 ≤ x) : -1 ≤ rf T n t G x ∧ rf T n t G x ≤ x + 3 := by
  unfold rf
  repeat' split
  all_goals omega
theorem rs_in {T : Int → Int} {n t : Int} (ht : 0 ≤ t ∧ t ≤ 8) : ∀ (j : Nat), (∀ i : Nat, i < j → rf T n t (rs T n t i) (4 * (i : Int) + 1) = -1) → ∀ k, -1 ≤ rs T n t j k ∧ rs T n t j k < 256
  | 0, _, k => by unfold rs; omega
  | j + 1, e, k => rj_in ht (e j (by omega)) (by omega) (rs_in ht j (fun i h => e i (by omega))) k
set_option maxHeartbeats 1000000 in
theorem l_X5_readSolid {h : ma_H} {b g nx d : Nat} {n t : Int} {r s : ma_V} {T : Int → Int} {Q : Option ma_V → ma_H → Nat → Prop} (ha : h 33 = co 5 [vi n, vr 34, r, s]) (h1 : h 34 = ci 80 T) (hb : h b = co 8 [vi t, vr g]) (hbg : b ≠ g) (n1 : g ≠ 33) (n2 : g ≠ 34) (hn : 0 ≤ n ∧ n ≤ 80) (hT : ∀ j, 0 ≤ j → j < 80 → 0 ≤ T j ∧ T j < 256) (ht : 1 ≤ t ∧ t ≤ 8) (K1 : ∀ j : Nat, (∀ i : Nat, i < j → rf T n t (rs T n t i) (4 * (i : Int) + 1) = -1 ∧ 4 * (i : Int) + 1 < n) → 4 * (j : Int) + 1 < n → 0 ≤ rf T n t (rs T n t j) (4 * (j : Int) + 1) → Q (some (vi (-1 - rf T n t (rs T n t j) (4 * (j : Int) + 1)))) (ma_up h g (ci 32 (rs T n t j))) nx) (K2 : ∀ j : Nat, (∀ i : Nat, i < j → rf T n t (rs T n t i) (4 * (i : Int) + 1) = -1 ∧ 4 * (i : Int) + 1 < n) → n ≤ 4 * (j : Int) + 1 → Q (some (vi t)) (ma_up h g (ci 32 (rs T n t j))) nx) :
    ∀ (m j : Nat) (x4 : Option ma_V), (∀ i : Nat, i < j → rf T n t (rs T n t i) (4 * (i : Int) + 1) = -1 ∧ 4 * (i : Int) + 1 < n) → 4 * (j : Int) + 1 ≤ n + 4 → n + 4 - (4 * (j : Int) + 1) < m → ma_J none mX5_readSolid (d + 3) 0 0 22 [some (vr 33), some (vr b), some (vi t), some (vi (4 * (j : Int) + 1)), x4] [] (ma_up h g (ci 32 (rs T n t j))) nx Q := by
  intro m
  induction m with
  | zero => intro j x4 hk h0 h2; omega
  | succ m ih =>
    intro j x4 hk h0 h2
    have hrf := rf_le (T := T) (n := n) (t := t) (G := rs T n t j) (x := 4 * (j : Int) + 1) (by omega)
    refine ma_iload_n dX5_readSolid_22 rfl ?_
    refine ma_aload_n dX5_readSolid_23 rfl ?_
    refine ma_getf dX5_readSolid_24 fX5_18 (by first | assumption | exact ma_up_s _ _ _ | (rw [ma_up_n (Ne.symm n1)]; assumption) | (rw [ma_up_n (Ne.symm n2)]; assumption) | (rw [ma_up_n hbg]; assumption)) (by rfl) ?_
    refine ma_rcmp_ge 54 dX5_readSolid_27 rfl (by constructor <;> omega) (by constructor <;> omega) (fun c27 => ?_) (fun c27 => ?_)
    · -- 54
      refine ma_iload_n dX5_readSolid_54 rfl ?_
      exact ma_iret dX5_readSolid_55 rfl (K2 j hk (by omega))
    · -- 30
      refine ma_aload_n dX5_readSolid_30 rfl ?_
      refine ma_aload_n dX5_readSolid_31 rfl ?_
      refine ma_iload_n dX5_readSolid_32 rfl ?_
      refine ma_cV [_, _] dX5_readSolid_33 wX5_readPair lX5_36 iX5_readPair sX5_readPair rfl (by first | assumption | exact ma_up_s _ _ _ | (rw [ma_up_n (Ne.symm n1)]; assumption) | (rw [ma_up_n (Ne.symm n2)]; assumption) | (rw [ma_up_n hbg]; assumption)) (Nat.le_of_ble_eq_true rfl) ?_
      refine c_X5_readPair (by first | assumption | exact ma_up_s _ _ _ | (rw [ma_up_n (Ne.symm n1)]; assumption) | (rw [ma_up_n (Ne.symm n2)]; assumption) | (rw [ma_up_n hbg]; assumption)) (by first | assumption | exact ma_up_s _ _ _ | (rw [ma_up_n (Ne.symm n1)]; assumption) | (rw [ma_up_n (Ne.symm n2)]; assumption) | (rw [ma_up_n hbg]; assumption)) (by first | assumption | exact ma_up_s _ _ _ | (rw [ma_up_n (Ne.symm n1)]; assumption) | (rw [ma_up_n (Ne.symm n2)]; assumption) | (rw [ma_up_n hbg]; assumption)) (ma_up_s _ _ _) hbg hn hT (by omega) (fun k _ _ => by have := rs_in (by omega) j (fun i z => (hk i z).1) k; constructor <;> omega) (by omega) (fun e1 => ?_) (fun e1 => ?_)
      · -- I
        refine ma_istoreN dX5_readSolid_36 (by decide) rfl ?_
        refine ma_iload dX5_readSolid_38 rfl ?_
        refine ma_rif_lt 48 dX5_readSolid_40 rfl (by constructor <;> omega) (fun c40 => ?_) (fun c40 => ?_)
        · -- 48
          refine ma_iincN dX5_readSolid_48 rfl (by decide) rfl ?_
          refine ma_goto 22 dX5_readSolid_51 rfl ?_
          exfalso; omega
        · -- 43
          refine ma_iconst dX5_readSolid_43 ?_
          refine ma_iload dX5_readSolid_44 rfl ?_
          refine ma_isub dX5_readSolid_46 ?_
          exact ma_iret dX5_readSolid_47 rfl (K1 j hk (by omega) e1)
      · -- k-1
        refine ma_istoreN dX5_readSolid_36 (by decide) rfl ?_
        refine ma_iload dX5_readSolid_38 rfl ?_
        refine ma_rif_lt 48 dX5_readSolid_40 rfl (by decide) (fun c40 => ?_) (fun c40 => absurd c40 (by decide))
        refine ma_iincN dX5_readSolid_48 rfl (by decide) rfl ?_
        refine ma_goto 22 dX5_readSolid_51 rfl ?_
        rw [ma_up_up]
        have z := ih (j + 1) (some (vi (-1))) (fun i hi => by
          rcases Nat.lt_or_eq_of_le (show i ≤ j by omega) with z | z
          · exact hk i z
          · rw [z]; exact ⟨e1, by omega⟩) (by omega) (by omega)
        rw [show 4 * ((j + 1 : Nat) : Int) + 1 = 4 * (j : Int) + 1 + 4 by omega] at z
        exact z
set_option maxHeartbeats 1000000 in
theorem c_X5_readSolid {h : ma_H} {b g nx d : Nat} {n u : Int} {r s : ma_V} {T G : Int → Int} {Q : Option ma_V → ma_H → Nat → Prop} (ha : h 33 = co 5 [vi n, vr 34, r, s]) (h1 : h 34 = ci 80 T) (hb : h b = co 8 [vi u, vr g]) (hg : h g = ci 32 G) (hbg : b ≠ g) (n1 : g ≠ 33) (n2 : g ≠ 34) (n3 : b ≠ 33) (n4 : b ≠ 34) (hn : 0 ≤ n ∧ n ≤ 80) (hT : ∀ j, 0 ≤ j → j < 80 → 0 ≤ T j ∧ T j < 256) (K0 : dg T n 0 9 < 1 → Q (some (vi (-1))) h nx) (K1 : 1 ≤ dg T n 0 9 → ∀ j : Nat, (∀ i : Nat, i < j → rf T n (dg T n 0 9) (rs T n (dg T n 0 9) i) (4 * (i : Int) + 1) = -1 ∧ 4 * (i : Int) + 1 < n) → 4 * (j : Int) + 1 < n → 0 ≤ rf T n (dg T n 0 9) (rs T n (dg T n 0 9) j) (4 * (j : Int) + 1) → Q (some (vi (-1 - rf T n (dg T n 0 9) (rs T n (dg T n 0 9) j) (4 * (j : Int) + 1)))) (ma_up (ma_up h b (co 8 [vi (dg T n 0 9), vr g])) g (ci 32 (rs T n (dg T n 0 9) j))) nx) (K2 : 1 ≤ dg T n 0 9 → ∀ j : Nat, (∀ i : Nat, i < j → rf T n (dg T n 0 9) (rs T n (dg T n 0 9) i) (4 * (i : Int) + 1) = -1 ∧ 4 * (i : Int) + 1 < n) → n ≤ 4 * (j : Int) + 1 → Q (some (vi (dg T n 0 9))) (ma_up (ma_up h b (co 8 [vi (dg T n 0 9), vr g])) g (ci 32 (rs T n (dg T n 0 9) j))) nx) : ma_Ct mX5_readSolid (d + 3) 0 0 [vr 33, vr b] h nx Q := by
  have i1 := dg_in (T := T) (n := n) 0 (show (0 : Int) ≤ 9 by omega)
  refine ma_Ct.of (by decide +kernel) (Nat.le_of_ble_eq_true rfl) ?_
  refine ma_aload_n dX5_readSolid_0 rfl ?_
  refine ma_iconst dX5_readSolid_1 ?_
  refine ma_bipush dX5_readSolid_2 ?_
  refine ma_cV [_, _] dX5_readSolid_4 wX5_digitAt lX5_26 iX5_digitAt sX5_digitAt rfl (by first | assumption | exact ma_up_s _ _ _ | (rw [ma_up_n (Ne.symm n3)]; assumption) | (rw [ma_up_n (Ne.symm n4)]; assumption) | (rw [ma_up_n hbg]; first | assumption | exact ma_up_s _ _ _)) (Nat.le_of_ble_eq_true rfl) ?_
  refine c_X5_digitAt ha h1 hn hT (by constructor <;> omega) (by constructor <;> omega) ?_
  refine ma_istore_nN dX5_readSolid_7 (by decide) rfl ?_
  refine ma_iload_n dX5_readSolid_8 rfl ?_
  refine ma_iconst dX5_readSolid_9 ?_
  refine ma_rcmp_ge 15 dX5_readSolid_10 rfl (by constructor <;> omega) (by constructor <;> omega) (fun c10 => ?_) (fun c10 => ?_)
  · -- 15
    refine ma_aload_n dX5_readSolid_15 rfl ?_
    refine ma_iload_n dX5_readSolid_16 rfl ?_
    refine ma_cV [_] dX5_readSolid_17 wX8_clear lX5_30 iX8_clear sX8_clear rfl (by first | assumption | exact ma_up_s _ _ _ | (rw [ma_up_n (Ne.symm n3)]; assumption) | (rw [ma_up_n (Ne.symm n4)]; assumption) | (rw [ma_up_n hbg]; first | assumption | exact ma_up_s _ _ _)) (Nat.le_of_ble_eq_true rfl) ?_
    refine c_X8_clear hb hg hbg ?_
    refine ma_iconst dX5_readSolid_20 ?_
    refine ma_istore_nN dX5_readSolid_21 (by decide) rfl ?_
    exact l_X5_readSolid (h := ma_up h b (co 8 [vi (dg T n 0 9), vr g])) (by first | assumption | exact ma_up_s _ _ _ | (rw [ma_up_n (Ne.symm n3)]; assumption) | (rw [ma_up_n (Ne.symm n4)]; assumption) | (rw [ma_up_n hbg]; first | assumption | exact ma_up_s _ _ _)) (by first | assumption | exact ma_up_s _ _ _ | (rw [ma_up_n (Ne.symm n3)]; assumption) | (rw [ma_up_n (Ne.symm n4)]; assumption) | (rw [ma_up_n hbg]; first | assumption | exact ma_up_s _ _ _)) (by first | assumption | exact ma_up_s _ _ _ | (rw [ma_up_n (Ne.symm n3)]; assumption) | (rw [ma_up_n (Ne.symm n4)]; assumption) | (rw [ma_up_n hbg]; first | assumption | exact ma_up_s _ _ _)) hbg n1 n2 hn hT (by omega) (K1 (by omega)) (K2 (by omega)) 90 0 _ (fun i hi => absurd hi (by omega)) (by omega) (by omega)
  · -- 13
    refine ma_iconst dX5_readSolid_13 ?_
    exact ma_iret dX5_readSolid_14 rfl (K0 (by omega))
