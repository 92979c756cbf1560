/-- the first i steps of a trail can be read -/
def TOK (T : Int → Int) (n i : Int) : Prop := ∀ j : Nat, (j : Int) < i → ta T n j < n ∧ tf T n (ta T n j) = -1
theorem tok_s {T : Int → Int} {n i : Int} (i0 : 0 ≤ i) (h : TOK T n i) (h1 : ta T n i.toNat < n) (h2 : tf T n (ta T n i.toNat) = -1) : TOK T n (i + 1) := fun j hj => by
  rcases Int.lt_or_eq_of_le (show (j : Int) ≤ i by omega) with z | z
  · exact h j z
  · have e : j = i.toNat := by omega
    rw [e]
    exact ⟨h1, h2⟩
theorem tf_ok {T : Int → Int} {n x : Int} (hk : 0 ≤ kd (sg T n x)) (h : ∀ j, 1 ≤ j → j < 4 → 0 ≤ td T n x j) : tf T n x = -1 := by
  unfold tf
  have a := h 1 (by decide) (by decide)
  have b := h 2 (by decide) (by decide)
  have c := h 3 (by decide) (by decide)
  rw [if_neg (by omega), if_neg (by omega), if_neg (by omega), if_neg (by omega)]
theorem tf_bad {T : Int → Int} {n x k : Int} (hk : 0 ≤ kd (sg T n x)) (k1 : 1 ≤ k) (k4 : k < 4) (h : ∀ j, 1 ≤ j → j < k → 0 ≤ td T n x j) (h2 : td T n x k < 0) : tf T n x = x + k := by
  unfold tf
  rw [if_neg (by omega)]
  rcases (show k = 1 ∨ k = 2 ∨ k = 3 by omega) with e | e | e
  · subst e; rw [if_pos h2]
  · subst e
    have a := h 1 (by decide) (by decide)
    rw [if_neg (by omega), if_pos h2]
  · subst e
    have a := h 1 (by decide) (by decide)
    have b := h 2 (by decide) (by decide)
    rw [if_neg (by omega), if_neg (by omega), if_pos h2]
theorem tf_kd {T : Int → Int} {n x : Int} (hk : kd (sg T n x) < 0) : tf T n x = x := by
  unfold tf
  rw [if_pos hk]
theorem ta_le {T : Int → Int} {n : Int} (hn : 0 ≤ n ∧ n ≤ 80) {i : Int} (i0 : 0 ≤ i) (i1 : i ≤ 40) (h : TOK T n i) : ta T n i.toNat ≤ 200 := by
  rcases Int.lt_or_eq_of_le i0 with z | z
  · have a := h (i - 1).toNat (by omega)
    rw [show i.toNat = (i - 1).toNat + 1 by omega]
    show ta T n (i - 1).toNat + 1 + dn _ ≤ 200
    have b := dn_in (kd (sg T n (ta T n (i - 1).toNat)))
    omega
  · rw [← z]; show (0 : Int) ≤ 200; decide
theorem toN {i : Int} (h : 0 ≤ i) : (i + 1).toNat = i.toNat + 1 := by omega
set_option maxHeartbeats 2000000 in
theorem l_rt9 {h : ma_H} {nx d : Nat} {n m0 : Int} {T S : Int → Int} {Q : Option ma_V → ma_H → Nat → Prop} (h33 : h 33 = co 5 [vi n, vr 34, vi m0, vr 35]) (h34 : h 34 = ci 80 T) (h35 : h 35 = ci 160 S) (hn : 0 ≤ n ∧ n ≤ 80) (hT : ∀ j, 0 ≤ j → j < 80 → 0 ≤ T j ∧ T j < 256) (KF : ∀ (i : Int) S', 0 ≤ i → TOK T n i → ta T n i.toNat < n → 0 ≤ tf T n (ta T n i.toNat) → Q (some (vi (-1 - tf T n (ta T n i.toNat)))) (ma_up (ma_up h 33 (co 5 [vi n, vr 34, vi i, vr 35])) 35 (ci 160 S')) nx) (KO : ∀ i : Int, 0 ≤ i → i ≤ 40 → TOK T n i → n ≤ ta T n i.toNat → Q (some (vi 0)) (ma_up (ma_up h 33 (co 5 [vi n, vr 34, vi i, vr 35])) 35 (ci 160 (ts T n S i.toNat))) nx) :
    ∀ (m : Nat) (i x : Int) (w3 w4 w5 w6 : Option ma_V), 0 ≤ i → i ≤ 40 → 40 - i < m → x = ta T n i.toNat → TOK T n i → ma_J none mX5_readTrail (d + 2) 0 0 9 [some (vr 33), some (vi x), some (vi i), w3, w4, w5, w6] [] (ma_up (ma_up h 33 (co 5 [vi n, vr 34, vi i, vr 35])) 35 (ci 160 (ts T n S i.toNat))) nx Q := by
  intro m
  induction m with
  | zero => intro i x w3 w4 w5 w6 i0 i1 im; omega
  | succ m ih =>
    intro i x w3 w4 w5 w6 i0 i1 im ex hok
    have x0 : 0 ≤ x := by have := ta_ge T n i.toNat; omega
    have xb : x ≤ 200 := by
      rw [ex]; exact ta_le hn i0 i1 hok
    refine ma_iload_n dX5_readTrail_9 rfl ?_
    refine ma_bipush dX5_readTrail_10 ?_
    refine ma_rcmp_ge 141 dX5_readTrail_12 rfl (by constructor <;> omega) (by constructor <;> omega) (fun c12 => ?_) (fun c12 => ?_)
    · -- 141
      refine ma_iconst dX5_readTrail_141 ?_
      exact ma_iret dX5_readTrail_142 rfl (KO i i0 i1 hok (by rw [← ex]; have := ta_ge T n i.toNat; rw [← ex] at this; omega))
    · -- 15
      refine ma_iload_n dX5_readTrail_15 rfl ?_
      refine ma_aload_n dX5_readTrail_16 rfl ?_
      refine ma_getf dX5_readTrail_17 fX5_18 (by first | exact ma_up_s _ _ _ | exact (ma_up_n (by decide)).trans (ma_up_s _ _ _) | exact (ma_up_n (by decide)).trans ((ma_up_n (by decide)).trans h34)) (by rfl) ?_
      refine ma_rcmp_ge 141 dX5_readTrail_20 rfl (by constructor <;> omega) (by constructor <;> omega) (fun c20 => ?_) (fun c20 => ?_)
      · -- 141
        refine ma_iconst dX5_readTrail_141 ?_
        exact ma_iret dX5_readTrail_142 rfl (KO i i0 i1 hok (by rw [← ex]; have := ta_ge T n i.toNat; rw [← ex] at this; omega))
      · -- 23
        refine ma_aload_n dX5_readTrail_23 rfl ?_
        refine ma_iload_n dX5_readTrail_24 rfl ?_
        refine ma_cV [_] dX5_readTrail_25 wX5_signAt lX5_22 iX5_signAt sX5_signAt rfl (by first | exact ma_up_s _ _ _ | exact (ma_up_n (by decide)).trans (ma_up_s _ _ _) | exact (ma_up_n (by decide)).trans ((ma_up_n (by decide)).trans h34)) (Nat.le_of_ble_eq_true rfl) ?_
        refine c_X5_signAt ((ma_up_n (by decide)).trans (ma_up_s _ _ _)) ((ma_up_n (by decide)).trans ((ma_up_n (by decide)).trans h34)) hn (by unfold rg; omega) ?_
        have sr := sg_in hn hT x
        refine ma_cS [_] dX5_readTrail_28 wX5_kindOfSign lX5_56 tX5_kindOfSign (Nat.le_of_ble_eq_true rfl) ?_
        refine c_X5_kindOfSign (by unfold rg; omega) ?_
        have kr := kd_in (sg T n x)
        refine ma_istore_nN dX5_readTrail_31 (by decide) rfl ?_
        refine ma_iload_n dX5_readTrail_32 rfl ?_
        refine ma_rif_ge 40 dX5_readTrail_33 rfl (by constructor <;> omega) (fun c33 => ?_) (fun c33 => ?_)
        · -- 40
          refine ma_iload_n dX5_readTrail_40 rfl ?_
          refine ma_cS [_] dX5_readTrail_41 wX5_digitsOf lX5_59 tX5_digitsOf (Nat.le_of_ble_eq_true rfl) ?_
          refine c_X5_digitsOf (by unfold rg; omega) ?_
          have dr := dn_in (kd (sg T n x))
          refine ma_istoreN dX5_readTrail_44 (by decide) rfl ?_
          refine ma_aload_n dX5_readTrail_46 rfl ?_
          refine ma_getf dX5_readTrail_47 fX5_15 (by first | exact ma_up_s _ _ _ | exact (ma_up_n (by decide)).trans (ma_up_s _ _ _) | exact (ma_up_n (by decide)).trans ((ma_up_n (by decide)).trans h34)) (by rfl) ?_
          refine ma_iconst dX5_readTrail_50 ?_
          refine ma_iload_n dX5_readTrail_51 rfl ?_
          refine ma_imul dX5_readTrail_52 ?_
          refine ma_iload_n dX5_readTrail_53 rfl ?_
          refine ma_iast dX5_readTrail_54 (by first | exact ma_up_s _ _ _ | exact (ma_up_n (by decide)).trans (ma_up_s _ _ _) | exact (ma_up_n (by decide)).trans ((ma_up_n (by decide)).trans h34)) (by omega) (by omega) (by omega) ?_
          refine ma_iconst dX5_readTrail_55 ?_
          refine ma_istoreN dX5_readTrail_56 (by decide) rfl ?_
          have ek : kd (sg T n x) = kd (sg T n x) := rfl
          rw [ma_up_up]
          refine cast (congrArg (fun g => ma_J none mX5_readTrail (d + 2) 0 0 58 [some (vr 33), some (vi x), some (vi i), some (vi (kd (sg T n x))), some (vi (dn (kd (sg T n x)))), some (vi 1), w6] [] (ma_up (ma_up h 33 (co 5 [vi n, vr 34, vi i, vr 35])) 35 (ci 160 g)) nx Q) (tk_1 T n x i (uf (ts T n S i.toNat) (4 * i) (kd (sg T n x))))) ?_
          refine l_X5_readTrail_58 (ma_up_s _ _ _) ((ma_up_n (by decide)).trans h34) hn hT ⟨x0, by omega⟩ ⟨i0, by omega⟩ (fun k S' k1 k4 a b => ?_) (fun x5 x6 a => ?_) 4 1 _ (by decide) (by decide) (by decide) (fun j j0 j1 => by omega)
          · have e := tf_bad c33 k1 k4 a b
            rw [ex] at e
            have z := KF i S' i0 hok (by rw [← ex]; omega) (by rw [e, ← ex]; omega)
            rw [e, ← ex, show -1 - (x + k) = -1 - x - k by omega] at z
            exact z
          · -- on
            refine ma_iload_n dX5_readTrail_118 rfl ?_
            refine ma_iconst dX5_readTrail_119 ?_
            refine ma_iload dX5_readTrail_120 rfl ?_
            refine ma_iadd dX5_readTrail_122 ?_
            refine ma_iadd dX5_readTrail_123 ?_
            refine ma_istore_nN dX5_readTrail_124 (by decide) rfl ?_
            refine ma_aload_n dX5_readTrail_125 rfl ?_
            refine ma_dup dX5_readTrail_126 rfl ?_
            refine ma_getf dX5_readTrail_127 fX5_53 (by first | exact ma_up_s _ _ _ | exact (ma_up_n (by decide)).trans (ma_up_s _ _ _) | exact (ma_up_n (by decide)).trans ((ma_up_n (by decide)).trans h34)) (by rfl) ?_
            
            refine ma_iconst dX5_readTrail_130 ?_
            refine ma_iadd dX5_readTrail_131 ?_
            refine ma_puti dX5_readTrail_132 fX5_53 (by first | exact ma_up_s _ _ _ | exact (ma_up_n (by decide)).trans (ma_up_s _ _ _) | exact (ma_up_n (by decide)).trans ((ma_up_n (by decide)).trans h34)) (Nat.le_of_ble_eq_true rfl) ?_
            rw [ma_up_cm _ _ _ (by decide : 35 ≠ 33), ma_up_up]
            refine ma_iincN dX5_readTrail_135 rfl (by decide) rfl ?_
            refine ma_goto 9 dX5_readTrail_138 rfl ?_
            have et : ts T n S (i + 1).toNat = tk T n x i (uf (ts T n S i.toNat) (4 * i) (kd (sg T n x))) 4 := by
              rw [toN i0]
              show tk T n (ta T n i.toNat) (i.toNat : Int) (uf (ts T n S i.toNat) (4 * (i.toNat : Int)) (kd (sg T n (ta T n i.toNat)))) 4 = _
              rw [Int.toNat_of_nonneg i0, ← ex]
            have z := ih (i + 1) (x + (1 + dn (kd (sg T n x)))) (some (vi (kd (sg T n x)))) (some (vi (dn (kd (sg T n x))))) x5 x6 (by omega) (by omega) (by omega) (by rw [toN i0]; show _ = ta T n i.toNat + 1 + dn (kd (sg T n (ta T n i.toNat))); rw [← ex]; omega) (tok_s i0 hok (by rw [← ex]; omega) (by rw [← ex]; exact tf_ok c33 a))
            rw [et] at z
            exact z
        · -- 36
          refine ma_iconst dX5_readTrail_36 ?_
          refine ma_iload_n dX5_readTrail_37 rfl ?_
          refine ma_isub dX5_readTrail_38 ?_
          have z := KF i (ts T n S i.toNat) i0 hok (by rw [← ex]; omega) (by rw [← ex, tf_kd c33]; omega)
          rw [← ex, tf_kd c33] at z
          exact ma_iret dX5_readTrail_39 rfl z
theorem c_X5_readTrail {h : ma_H} {nx d : Nat} {n m0 : Int} {T S : Int → Int} {Q : Option ma_V → ma_H → Nat → Prop} (h33 : h 33 = co 5 [vi n, vr 34, vi m0, vr 35]) (h34 : h 34 = ci 80 T) (h35 : h 35 = ci 160 S) (hn : 0 ≤ n ∧ n ≤ 80) (hT : ∀ j, 0 ≤ j → j < 80 → 0 ≤ T j ∧ T j < 256) (KF : ∀ (i : Int) S', 0 ≤ i → TOK T n i → ta T n i.toNat < n → 0 ≤ tf T n (ta T n i.toNat) → Q (some (vi (-1 - tf T n (ta T n i.toNat)))) (ma_up (ma_up h 33 (co 5 [vi n, vr 34, vi i, vr 35])) 35 (ci 160 S')) nx) (KO : ∀ i : Int, 0 ≤ i → i ≤ 40 → TOK T n i → n ≤ ta T n i.toNat → Q (some (vi 0)) (ma_up (ma_up h 33 (co 5 [vi n, vr 34, vi i, vr 35])) 35 (ci 160 (ts T n S i.toNat))) nx) : ma_Ct mX5_readTrail (d + 2) 0 0 [vr 33] h nx Q := by
  refine ma_Ct.of (by decide +kernel) (Nat.le_of_ble_eq_true rfl) ?_
  refine ma_aload_n dX5_readTrail_0 rfl ?_
  refine ma_iconst dX5_readTrail_1 ?_
  refine ma_puti dX5_readTrail_2 fX5_53 (by first | exact h33 | exact ma_up_s _ _ _) (Nat.le_of_ble_eq_true rfl) ?_
  refine ma_iconst dX5_readTrail_5 ?_
  refine ma_istore_nN dX5_readTrail_6 (by decide) rfl ?_
  refine ma_iconst dX5_readTrail_7 ?_
  refine ma_istore_nN dX5_readTrail_8 (by decide) rfl ?_
  show ma_J none mX5_readTrail (d + 2) 0 0 9 [some (vr 33), some (vi 0), some (vi 0), none, none, none, none] [] (ma_up h 33 (co 5 [vi n, vr 34, vi 0, vr 35])) nx Q
  rw [show ma_up h 33 (co 5 [vi n, vr 34, vi 0, vr 35]) = (ma_up (ma_up h 33 (co 5 [vi n, vr 34, vi 0, vr 35])) 35 (ci 160 (ts T n S 0))) from (ma_up_id ((ma_up_n (by decide)).trans h35)).symm]
  exact l_rt9 h33 h34 h35 hn hT KF KO 41 0 0 _ _ _ _ (by decide) (by decide) (by decide) rfl (fun j hj => by omega)
