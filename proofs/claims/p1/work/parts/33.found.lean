/-- the greatest value that can be heard, or -1 -/
def hg (w : Int) : Int := if w = 0 then 48 else if w = 3 then 7 else if w = 1 ∨ w = 2 ∨ w = 4 then 1 else -1
theorem c_X4_greatest {h : ma_H} {nx d : Nat} {w : Int} {Q : Option ma_V → ma_H → Nat → Prop} (hw : rg w) (K : Q (some (vi (hg w))) h nx) : ma_Ct mX4_greatest d 0 0 [vi w] h nx Q := by
  unfold rg at hw
  unfold hg at K
  refine ma_Ct.of (by decide +kernel) (Nat.le_of_ble_eq_true rfl) ?_
  refine ma_iload_n dX4_greatest_0 rfl ?_
  rcases (show (w < 0 ∨ 4 < w) ∨ w = 0 ∨ w = 1 ∨ w = 2 ∨ w = 3 ∨ w = 4 by omega) with sw1 | sw1 | sw1 | sw1 | sw1 | sw1
  · -- default
    refine ma_tableOut 44 dX4_greatest_1 (by rw [iw_of (by omega) (by omega)]; omega) rfl ?_
    refine ma_iconst dX4_greatest_44 ?_
    refine ma_iret dX4_greatest_45 rfl ?_
    first | (rw [if_pos (by omega)] at K; exact K) | (rw [if_neg (by omega)] at K; first | exact K | (rw [if_pos (by omega)] at K; exact K) | (rw [if_neg (by omega)] at K; first | exact K | (rw [if_pos (by omega)] at K; exact K) | (rw [if_neg (by omega)] at K; exact K)))
  · -- case 0
    refine ma_tableIn 36 dX4_greatest_1 (by rw [iw_of (by omega) (by omega)]; omega) (by rw [iw_of (by omega) (by omega)]; omega) (by rw [iw_of (by omega) (by omega)]; rw [sw1]; rfl) rfl ?_
    refine ma_bipush dX4_greatest_36 ?_
    refine ma_iret dX4_greatest_38 rfl ?_
    first | (rw [if_pos (by omega)] at K; exact K) | (rw [if_neg (by omega)] at K; first | exact K | (rw [if_pos (by omega)] at K; exact K) | (rw [if_neg (by omega)] at K; first | exact K | (rw [if_pos (by omega)] at K; exact K) | (rw [if_neg (by omega)] at K; exact K)))
  · -- case 1
    refine ma_tableIn 39 dX4_greatest_1 (by rw [iw_of (by omega) (by omega)]; omega) (by rw [iw_of (by omega) (by omega)]; omega) (by rw [iw_of (by omega) (by omega)]; rw [sw1]; rfl) rfl ?_
    refine ma_iconst dX4_greatest_39 ?_
    refine ma_iret dX4_greatest_40 rfl ?_
    first | (rw [if_pos (by omega)] at K; exact K) | (rw [if_neg (by omega)] at K; first | exact K | (rw [if_pos (by omega)] at K; exact K) | (rw [if_neg (by omega)] at K; first | exact K | (rw [if_pos (by omega)] at K; exact K) | (rw [if_neg (by omega)] at K; exact K)))
  · -- case 2
    refine ma_tableIn 39 dX4_greatest_1 (by rw [iw_of (by omega) (by omega)]; omega) (by rw [iw_of (by omega) (by omega)]; omega) (by rw [iw_of (by omega) (by omega)]; rw [sw1]; rfl) rfl ?_
    refine ma_iconst dX4_greatest_39 ?_
    refine ma_iret dX4_greatest_40 rfl ?_
    first | (rw [if_pos (by omega)] at K; exact K) | (rw [if_neg (by omega)] at K; first | exact K | (rw [if_pos (by omega)] at K; exact K) | (rw [if_neg (by omega)] at K; first | exact K | (rw [if_pos (by omega)] at K; exact K) | (rw [if_neg (by omega)] at K; exact K)))
  · -- case 3
    refine ma_tableIn 41 dX4_greatest_1 (by rw [iw_of (by omega) (by omega)]; omega) (by rw [iw_of (by omega) (by omega)]; omega) (by rw [iw_of (by omega) (by omega)]; rw [sw1]; rfl) rfl ?_
    refine ma_bipush dX4_greatest_41 ?_
    refine ma_iret dX4_greatest_43 rfl ?_
    first | (rw [if_pos (by omega)] at K; exact K) | (rw [if_neg (by omega)] at K; first | exact K | (rw [if_pos (by omega)] at K; exact K) | (rw [if_neg (by omega)] at K; first | exact K | (rw [if_pos (by omega)] at K; exact K) | (rw [if_neg (by omega)] at K; exact K)))
  · -- case 4
    refine ma_tableIn 39 dX4_greatest_1 (by rw [iw_of (by omega) (by omega)]; omega) (by rw [iw_of (by omega) (by omega)]; omega) (by rw [iw_of (by omega) (by omega)]; rw [sw1]; rfl) rfl ?_
    refine ma_iconst dX4_greatest_39 ?_
    refine ma_iret dX4_greatest_40 rfl ?_
    first | (rw [if_pos (by omega)] at K; exact K) | (rw [if_neg (by omega)] at K; first | exact K | (rw [if_pos (by omega)] at K; exact K) | (rw [if_neg (by omega)] at K; first | exact K | (rw [if_pos (by omega)] at K; exact K) | (rw [if_neg (by omega)] at K; exact K)))
theorem c_X4_add {h : ma_H} {nx d : Nat} {n w v : Int} {A C : Int → Int} {Q : Option ma_V → ma_H → Nat → Prop} (ha : h 36 = co 4 [vi n, vr 37, vr 38]) (h1 : h 37 = ci 8 A) (h2 : h 38 = ci 8 C) (hn : 0 ≤ n ∧ n ≤ 8) (hw : rg w) (hv : rg v) (K0 : ¬ (n < 8 ∧ 0 ≤ v ∧ v ≤ hg w) → Q (some (vi (-1))) h nx) (K : n < 8 ∧ 0 ≤ v ∧ v ≤ hg w → Q (some (vi (n + 1))) (ma_up (ma_up (ma_up h 37 (ci 8 (uf A n w))) 38 (ci 8 (uf C n v))) 36 (co 4 [vi (n + 1), vr 37, vr 38])) nx) : ma_Ct mX4_add (d + 1) 0 0 [vr 36, vi w, vi v] h nx Q := by
  have hgw : -1 ≤ hg w ∧ hg w ≤ 48 := by
    unfold hg
    split
    · omega
    · split
      · omega
      · split <;> omega
  have hv2 := hv
  unfold rg at hv2
  refine ma_Ct.of (by decide +kernel) (Nat.le_of_ble_eq_true rfl) ?_
  refine ma_aload_n dX4_add_0 rfl ?_
  refine ma_getf dX4_add_1 fX4_18 (by first | assumption | exact ma_up_s _ _ _ | (rw [ma_up_n (by omega)]; first | assumption | exact ma_up_s _ _ _ | (rw [ma_up_n (by omega)]; first | assumption | exact ma_up_s _ _ _))) (by rfl) ?_
  refine ma_bipush dX4_add_4 ?_
  refine ma_rcmp_ge 21 dX4_add_6 rfl (by constructor <;> omega) (by constructor <;> omega) (fun c6 => ?_) (fun c6 => ?_)
  · -- 21
    refine ma_iconst dX4_add_21 ?_
    refine ma_iret dX4_add_22 rfl ?_
    first | exact K0 (by omega) | exact K (by omega)
  · -- 9
    refine ma_iload_n dX4_add_9 rfl ?_
    refine ma_rif_lt 21 dX4_add_10 rfl (by constructor <;> omega) (fun c10 => ?_) (fun c10 => ?_)
    · -- 21
      refine ma_iconst dX4_add_21 ?_
      refine ma_iret dX4_add_22 rfl ?_
      first | exact K0 (by omega) | exact K (by omega)
    · -- 13
      refine ma_iload_n dX4_add_13 rfl ?_
      refine ma_iload_n dX4_add_14 rfl ?_
      refine ma_cS [_] dX4_add_15 wX4_greatest lX4_22 tX4_greatest (Nat.le_of_ble_eq_true rfl) ?_
      refine c_X4_greatest hw ?_
      refine ma_rcmp_le 23 dX4_add_18 rfl (by constructor <;> omega) (by constructor <;> omega) (fun c18 => ?_) (fun c18 => ?_)
      · -- 23
        refine ma_aload_n dX4_add_23 rfl ?_
        refine ma_getf dX4_add_24 fX4_11 (by first | assumption | exact ma_up_s _ _ _ | (rw [ma_up_n (by omega)]; first | assumption | exact ma_up_s _ _ _ | (rw [ma_up_n (by omega)]; first | assumption | exact ma_up_s _ _ _))) (by rfl) ?_
        refine ma_aload_n dX4_add_27 rfl ?_
        refine ma_getf dX4_add_28 fX4_18 (by first | assumption | exact ma_up_s _ _ _ | (rw [ma_up_n (by omega)]; first | assumption | exact ma_up_s _ _ _ | (rw [ma_up_n (by omega)]; first | assumption | exact ma_up_s _ _ _))) (by rfl) ?_
        refine ma_iload_n dX4_add_31 rfl ?_
        refine ma_iast dX4_add_32 (by first | assumption | exact ma_up_s _ _ _ | (rw [ma_up_n (by omega)]; first | assumption | exact ma_up_s _ _ _ | (rw [ma_up_n (by omega)]; first | assumption | exact ma_up_s _ _ _))) (by omega) (by omega) (by omega) ?_
        refine ma_aload_n dX4_add_33 rfl ?_
        refine ma_getf dX4_add_34 fX4_15 (by first | assumption | exact ma_up_s _ _ _ | (rw [ma_up_n (by omega)]; first | assumption | exact ma_up_s _ _ _ | (rw [ma_up_n (by omega)]; first | assumption | exact ma_up_s _ _ _))) (by rfl) ?_
        refine ma_aload_n dX4_add_37 rfl ?_
        refine ma_getf dX4_add_38 fX4_18 (by first | assumption | exact ma_up_s _ _ _ | (rw [ma_up_n (by omega)]; first | assumption | exact ma_up_s _ _ _ | (rw [ma_up_n (by omega)]; first | assumption | exact ma_up_s _ _ _))) (by rfl) ?_
        refine ma_iload_n dX4_add_41 rfl ?_
        refine ma_iast dX4_add_42 (by first | assumption | exact ma_up_s _ _ _ | (rw [ma_up_n (by omega)]; first | assumption | exact ma_up_s _ _ _ | (rw [ma_up_n (by omega)]; first | assumption | exact ma_up_s _ _ _))) (by omega) (by omega) (by omega) ?_
        refine ma_aload_n dX4_add_43 rfl ?_
        refine ma_dup dX4_add_44 rfl ?_
        refine ma_getf dX4_add_45 fX4_18 (by first | assumption | exact ma_up_s _ _ _ | (rw [ma_up_n (by omega)]; first | assumption | exact ma_up_s _ _ _ | (rw [ma_up_n (by omega)]; first | assumption | exact ma_up_s _ _ _))) (by rfl) ?_
        refine ma_iconst dX4_add_48 ?_
        refine ma_iadd dX4_add_49 ?_
        refine ma_puti dX4_add_50 fX4_18 (by first | assumption | exact ma_up_s _ _ _ | (rw [ma_up_n (by omega)]; first | assumption | exact ma_up_s _ _ _ | (rw [ma_up_n (by omega)]; first | assumption | exact ma_up_s _ _ _))) (Nat.le_of_ble_eq_true rfl) ?_
        refine ma_aload_n dX4_add_53 rfl ?_
        refine ma_getf dX4_add_54 fX4_18 (by first | assumption | exact ma_up_s _ _ _ | (rw [ma_up_n (by omega)]; first | assumption | exact ma_up_s _ _ _ | (rw [ma_up_n (by omega)]; first | assumption | exact ma_up_s _ _ _))) (by rfl) ?_
        refine ma_iret dX4_add_57 rfl ?_
        first | exact K0 (by omega) | exact K (by omega)
      · -- 21
        refine ma_iconst dX4_add_21 ?_
        refine ma_iret dX4_add_22 rfl ?_
        first | exact K0 (by omega) | exact K (by omega)
theorem c_X0_movesTo {h : ma_H} {nx d : Nat} {n i : Int} {r s : ma_V} {A : Int → Int} {Q : Option ma_V → ma_H → Nat → Prop} (ha : h 64 = co 0 [vi n, r, vr 66, s]) (h1 : h 66 = ci 40 A) (hn : 0 ≤ n ∧ n ≤ 40) (hi : rg i) (K : Q (some (vi (if 0 ≤ i ∧ i < n then A i else 0))) h nx) : ma_Ct mX0_movesTo d 0 0 [vr 64, vi i] h nx Q := by
  unfold rg at hi
  refine ma_Ct.of (by decide +kernel) (Nat.le_of_ble_eq_true rfl) ?_
  refine ma_iload_n dX0_movesTo_0 rfl ?_
  refine ma_rif_lt 21 dX0_movesTo_1 rfl (by constructor <;> omega) (fun c1 => ?_) (fun c1 => ?_)
  · -- 21
    refine ma_iconst dX0_movesTo_21 ?_
    refine ma_iret dX0_movesTo_22 rfl ?_
    first | (rw [if_pos (by omega)] at K; exact K) | (rw [if_neg (by omega)] at K; exact K)
  · -- 4
    refine ma_iload_n dX0_movesTo_4 rfl ?_
    refine ma_aload_n dX0_movesTo_5 rfl ?_
    refine ma_getf dX0_movesTo_6 fX0_21 (by first | assumption | exact ma_up_s _ _ _ | (rw [ma_up_n (by omega)]; first | assumption | exact ma_up_s _ _ _ | (rw [ma_up_n (by omega)]; first | assumption | exact ma_up_s _ _ _))) (by rfl) ?_
    refine ma_rcmp_ge 21 dX0_movesTo_9 rfl (by constructor <;> omega) (by constructor <;> omega) (fun c9 => ?_) (fun c9 => ?_)
    · -- 21
      refine ma_iconst dX0_movesTo_21 ?_
      refine ma_iret dX0_movesTo_22 rfl ?_
      first | (rw [if_pos (by omega)] at K; exact K) | (rw [if_neg (by omega)] at K; exact K)
    · -- 12
      refine ma_aload_n dX0_movesTo_12 rfl ?_
      refine ma_getf dX0_movesTo_13 fX0_15 (by first | assumption | exact ma_up_s _ _ _ | (rw [ma_up_n (by omega)]; first | assumption | exact ma_up_s _ _ _ | (rw [ma_up_n (by omega)]; first | assumption | exact ma_up_s _ _ _))) (by rfl) ?_
      refine ma_iload_n dX0_movesTo_16 rfl ?_
      refine ma_iald dX0_movesTo_17 (by first | assumption | exact ma_up_s _ _ _ | (rw [ma_up_n (by omega)]; first | assumption | exact ma_up_s _ _ _ | (rw [ma_up_n (by omega)]; first | assumption | exact ma_up_s _ _ _))) (by omega) (by omega) (by omega) ?_
      refine ma_goto 22 dX0_movesTo_18 rfl ?_
      refine ma_iret dX0_movesTo_22 rfl ?_
      first | (rw [if_pos (by omega)] at K; exact K) | (rw [if_neg (by omega)] at K; exact K)
theorem c_X0_load {h : ma_H} {b g d : Nat} {n i t : Int} {T A G : Int → Int} {r : ma_V} {Q : Option ma_V → ma_H → Nat → Prop} (ha : h 64 = co 0 [vi n, vr 65, r, vr 67]) (h1 : h 65 = ci 40 T) (h2 : h 67 = ci 1280 A) (hb : h b = co 8 [vi t, vr g]) (hg : h g = ci 32 G) (n1 : b ≠ 64) (n2 : b ≠ g) (n3 : b ≠ 67) (n4 : b ≠ 65) (hn : 0 ≤ n ∧ n ≤ 40) (hi : 0 ≤ i ∧ i < n) (K : Q none (ma_up (ma_up h b (co 8 [vi (T i), vr g])) g (ci 32 (fun j => A (32 * i + j)))) 1000000) : ma_Ct mX0_load (d + 1) 0 0 [vr 64, vi i, vr b] h 1000000 Q := by
  refine ma_Ct.of (by decide +kernel) (Nat.le_of_ble_eq_true rfl) ?_
  refine ma_iload_n dX0_load_0 rfl ?_
  refine ma_rif_lt 40 dX0_load_1 rfl (by constructor <;> omega) (fun c1 => ?_) (fun c1 => ?_)
  · -- 40
    exfalso; omega
  · -- 4
    refine ma_iload_n dX0_load_4 rfl ?_
    refine ma_aload_n dX0_load_5 rfl ?_
    refine ma_getf dX0_load_6 fX0_21 (by first | assumption | exact ma_up_s _ _ _ | (rw [ma_up_n (by omega)]; first | assumption | exact ma_up_s _ _ _ | (rw [ma_up_n (by omega)]; first | assumption | exact ma_up_s _ _ _))) (by rfl) ?_
    refine ma_rcmp_ge 40 dX0_load_9 rfl (by constructor <;> omega) (by constructor <;> omega) (fun c9 => ?_) (fun c9 => ?_)
    · -- 40
      exfalso; omega
    · -- 12
      refine ma_aload_n dX0_load_12 rfl ?_
      refine ma_aload_n dX0_load_13 rfl ?_
      refine ma_getf dX0_load_14 fX0_11 (by first | assumption | exact ma_up_s _ _ _ | (rw [ma_up_n (by omega)]; first | assumption | exact ma_up_s _ _ _ | (rw [ma_up_n (by omega)]; first | assumption | exact ma_up_s _ _ _))) (by rfl) ?_
      refine ma_iload_n dX0_load_17 rfl ?_
      refine ma_iald dX0_load_18 (by first | assumption | exact ma_up_s _ _ _ | (rw [ma_up_n (by omega)]; first | assumption | exact ma_up_s _ _ _ | (rw [ma_up_n (by omega)]; first | assumption | exact ma_up_s _ _ _))) (by omega) (by omega) (by omega) ?_
      refine ma_puti dX0_load_19 fX0_25 (by first | assumption | exact ma_up_s _ _ _ | (rw [ma_up_n (by omega)]; first | assumption | exact ma_up_s _ _ _ | (rw [ma_up_n (by omega)]; first | assumption | exact ma_up_s _ _ _))) (Nat.le_of_ble_eq_true rfl) ?_
      refine ma_aload_n dX0_load_22 rfl ?_
      refine ma_getf dX0_load_23 fX0_18 (by first | assumption | exact ma_up_s _ _ _ | (rw [ma_up_n (by omega)]; first | assumption | exact ma_up_s _ _ _ | (rw [ma_up_n (by omega)]; first | assumption | exact ma_up_s _ _ _))) (by rfl) ?_
      refine ma_iload_n dX0_load_26 rfl ?_
      refine ma_bipush dX0_load_27 ?_
      refine ma_imul dX0_load_29 ?_
      refine ma_aload_n dX0_load_30 rfl ?_
      refine ma_getf dX0_load_31 fX0_29 (by first | assumption | exact ma_up_s _ _ _ | (rw [ma_up_n (by omega)]; first | assumption | exact ma_up_s _ _ _ | (rw [ma_up_n (by omega)]; first | assumption | exact ma_up_s _ _ _))) (by rfl) ?_
      refine ma_iconst dX0_load_34 ?_
      refine ma_bipush dX0_load_35 ?_
      refine ma_copy dX0_load_37 lX0_30 ac_n ac_s ac_i (by first | assumption | exact ma_up_s _ _ _ | (rw [ma_up_n (by omega)]; first | assumption | exact ma_up_s _ _ _ | (rw [ma_up_n (by omega)]; first | assumption | exact ma_up_s _ _ _))) (by first | assumption | exact ma_up_s _ _ _ | (rw [ma_up_n (by omega)]; first | assumption | exact ma_up_s _ _ _ | (rw [ma_up_n (by omega)]; first | assumption | exact ma_up_s _ _ _))) (by omega) (by omega) (by omega) (by omega) (by omega) (by omega) (by omega) (by omega) (Nat.le_of_ble_eq_true rfl) ?_
      refine ma_ext (fun j => A (32 * i + j)) (ma_up_s _ _ _) (fun j h3 h4 => by unfold ma_cpy; rw [if_pos (by omega)]; congr 1; omega) ?_
      rw [ma_up_up]
      exact ma_vret dX0_load_40 rfl K
set_option maxHeartbeats 1000000 in
theorem l_X0_holds {h : ma_H} {b g nx d : Nat} {n i t : Int} {T A G : Int → Int} {r : ma_V} {Q : Option ma_V → ma_H → Nat → Prop} (ha : h 64 = co 0 [vi n, vr 65, r, vr 67]) (h1 : h 65 = ci 40 T) (h2 : h 67 = ci 1280 A) (hb : h b = co 8 [vi t, vr g]) (hg : h g = ci 32 G) (ht : 0 ≤ t ∧ t ≤ 8) (hi : 0 ≤ i ∧ i < 40) (hA : ∀ j, 0 ≤ j → j < 1280 → rg (A j)) (hG : ∀ j, 0 ≤ j → j < 32 → rg (G j)) (e0 : T i = t) (K1 : (T i = t ∧ ∀ k, 0 ≤ k → k < 4 * t → A (32 * i + k) = G k) → Q (some (vi 1)) h nx) (K0 : ¬ (T i = t ∧ ∀ k, 0 ≤ k → k < 4 * t → A (32 * i + k) = G k) → Q (some (vi 0)) h nx) :
    ∀ (m : Nat) (k : Int), 0 ≤ k → k ≤ 4 * t → 4 * t - k < m → (∀ j, 0 ≤ j → j < k → A (32 * i + j) = G j) → ma_J none mX0_holds d 0 0 17 [some (vr 64), some (vi i), some (vr b), some (vi k)] [] h nx Q := by
  intro m
  induction m with
  | zero => intro k h0 h1 h2; omega
  | succ m ih =>
    intro k h0 h3 h4 hk
    refine ma_iload_n dX0_holds_17 rfl ?_
    refine ma_iconst dX0_holds_18 ?_
    refine ma_aload_n dX0_holds_19 rfl ?_
    refine ma_getf dX0_holds_20 fX0_25 (by first | assumption | exact ma_up_s _ _ _ | (rw [ma_up_n (by omega)]; first | assumption | exact ma_up_s _ _ _ | (rw [ma_up_n (by omega)]; first | assumption | exact ma_up_s _ _ _))) (by rfl) ?_
    refine ma_imul dX0_holds_23 ?_
    refine ma_rcmp_ge 55 dX0_holds_24 rfl (by constructor <;> omega) (by constructor <;> omega) (fun c24 => ?_) (fun c24 => ?_)
    · -- 55
      refine ma_iconst dX0_holds_55 ?_
      exact ma_zret dX0_holds_56 rfl (Or.inr rfl) (K1 ⟨e0, fun j j0 j1 => hk j j0 (by omega)⟩)
    · -- 27
      refine ma_aload_n dX0_holds_27 rfl ?_
      refine ma_getf dX0_holds_28 fX0_18 (by first | assumption | exact ma_up_s _ _ _ | (rw [ma_up_n (by omega)]; first | assumption | exact ma_up_s _ _ _ | (rw [ma_up_n (by omega)]; first | assumption | exact ma_up_s _ _ _))) (by rfl) ?_
      refine ma_iload_n dX0_holds_31 rfl ?_
      refine ma_bipush dX0_holds_32 ?_
      refine ma_imul dX0_holds_34 ?_
      refine ma_iload_n dX0_holds_35 rfl ?_
      refine ma_iadd dX0_holds_36 ?_
      refine ma_iald dX0_holds_37 (by first | assumption | exact ma_up_s _ _ _ | (rw [ma_up_n (by omega)]; first | assumption | exact ma_up_s _ _ _ | (rw [ma_up_n (by omega)]; first | assumption | exact ma_up_s _ _ _))) (by omega) (by omega) (by omega) ?_
      refine ma_aload_n dX0_holds_38 rfl ?_
      refine ma_getf dX0_holds_39 fX0_29 (by first | assumption | exact ma_up_s _ _ _ | (rw [ma_up_n (by omega)]; first | assumption | exact ma_up_s _ _ _ | (rw [ma_up_n (by omega)]; first | assumption | exact ma_up_s _ _ _))) (by rfl) ?_
      refine ma_iload_n dX0_holds_42 rfl ?_
      refine ma_iald dX0_holds_43 (by first | assumption | exact ma_up_s _ _ _ | (rw [ma_up_n (by omega)]; first | assumption | exact ma_up_s _ _ _ | (rw [ma_up_n (by omega)]; first | assumption | exact ma_up_s _ _ _))) (by omega) (by omega) (by omega) ?_
      refine ma_rcmp_eq 49 dX0_holds_44 rfl (hA _ (by omega) (by omega)) (hG _ (by omega) (by omega)) (fun c44 => ?_) (fun c44 => ?_)
      try rw [show i * 32 + k = 32 * i + k by omega] at c44
      · -- 49
        refine ma_iincN dX0_holds_49 rfl (by decide) rfl ?_
        refine ma_goto 17 dX0_holds_52 rfl ?_
        exact ih (k + 1) (by omega) (by omega) (by omega) (fun j j0 j1 => by
          rcases Int.lt_or_eq_of_le (show j ≤ k by omega) with z | z
          · exact hk j j0 z
          · rw [z]; exact c44)
      · -- 47
        refine ma_iconst dX0_holds_47 ?_
        exact ma_zret dX0_holds_48 rfl (Or.inl rfl) (K0 (fun q => c44 (by have := q.2 k h0 (by omega); rw [show i * 32 + k = 32 * i + k by omega]; exact this)))
theorem c_X0_holds {h : ma_H} {b g nx d : Nat} {n i t : Int} {T A G : Int → Int} {r : ma_V} {Q : Option ma_V → ma_H → Nat → Prop} (ha : h 64 = co 0 [vi n, vr 65, r, vr 67]) (h1 : h 65 = ci 40 T) (h2 : h 67 = ci 1280 A) (hb : h b = co 8 [vi t, vr g]) (hg : h g = ci 32 G) (ht : 0 ≤ t ∧ t ≤ 8) (hi : 0 ≤ i ∧ i < 40) (hA : ∀ j, 0 ≤ j → j < 1280 → rg (A j)) (hG : ∀ j, 0 ≤ j → j < 32 → rg (G j)) (hT : rg (T i)) (K1 : (T i = t ∧ ∀ k, 0 ≤ k → k < 4 * t → A (32 * i + k) = G k) → Q (some (vi 1)) h nx) (K0 : ¬ (T i = t ∧ ∀ k, 0 ≤ k → k < 4 * t → A (32 * i + k) = G k) → Q (some (vi 0)) h nx) : ma_Ct mX0_holds d 0 0 [vr 64, vi i, vr b] h nx Q := by
  unfold rg at hT
  refine ma_Ct.of (by decide +kernel) (Nat.le_of_ble_eq_true rfl) ?_
  refine ma_aload_n dX0_holds_0 rfl ?_
  refine ma_getf dX0_holds_1 fX0_11 (by first | assumption | exact ma_up_s _ _ _ | (rw [ma_up_n (by omega)]; first | assumption | exact ma_up_s _ _ _ | (rw [ma_up_n (by omega)]; first | assumption | exact ma_up_s _ _ _))) (by rfl) ?_
  refine ma_iload_n dX0_holds_4 rfl ?_
  refine ma_iald dX0_holds_5 (by first | assumption | exact ma_up_s _ _ _ | (rw [ma_up_n (by omega)]; first | assumption | exact ma_up_s _ _ _ | (rw [ma_up_n (by omega)]; first | assumption | exact ma_up_s _ _ _))) (by omega) (by omega) (by omega) ?_
  refine ma_aload_n dX0_holds_6 rfl ?_
  refine ma_getf dX0_holds_7 fX0_25 (by first | assumption | exact ma_up_s _ _ _ | (rw [ma_up_n (by omega)]; first | assumption | exact ma_up_s _ _ _ | (rw [ma_up_n (by omega)]; first | assumption | exact ma_up_s _ _ _))) (by rfl) ?_
  refine ma_rcmp_eq 15 dX0_holds_10 rfl (by constructor <;> omega) (by constructor <;> omega) (fun c10 => ?_) (fun c10 => ?_)
  · -- 15
    refine ma_iconst dX0_holds_15 ?_
    refine ma_istore_nN dX0_holds_16 (by decide) rfl ?_
    exact l_X0_holds ha h1 h2 hb hg ht hi hA hG c10 K1 K0 40 0 (by omega) (by omega) (by omega) (fun j j0 j1 => by omega)
  · -- 13
    refine ma_iconst dX0_holds_13 ?_
    exact ma_zret dX0_holds_14 rfl (Or.inl rfl) (K0 (fun q => c10 q.1))
/-- a solid of t tets with the glue G is among the n found -/
def fh (T A : Int → Int) (n t : Int) (G : Int → Int) : Prop := ∃ i, 0 ≤ i ∧ i < n ∧ T i = t ∧ ∀ k, 0 ≤ k → k < 4 * t → A (32 * i + k) = G k
/-- the glue of the found with one more -/
def fp (A G : Int → Int) (n : Int) : Int → Int := ma_cpy G A 0 (32 * n) 32
set_option maxHeartbeats 1000000 in
theorem l_X0_add {h : ma_H} {b g d : Nat} {n t v : Int} {T A M G : Int → Int} {Q : Option ma_V → ma_H → Nat → Prop} (ha : h 64 = co 0 [vi n, vr 65, vr 66, vr 67]) (h1 : h 65 = ci 40 T) (hM : h 66 = ci 40 M) (h2 : h 67 = ci 1280 A) (hb : h b = co 8 [vi t, vr g]) (hg : h g = ci 32 G) (n1 : b ≠ 65) (n2 : b ≠ 66) (n3 : b ≠ 67) (n4 : b ≠ 64) (n5 : g ≠ 65) (n6 : g ≠ 66) (n7 : g ≠ 67) (n8 : g ≠ 64) (hn : 0 ≤ n ∧ n < 40) (ht : 0 ≤ t ∧ t ≤ 8) (hA : ∀ j, 0 ≤ j → j < 1280 → rg (A j)) (hG : ∀ j, 0 ≤ j → j < 32 → rg (G j)) (hT : ∀ j, 0 ≤ j → j < 40 → rg (T j)) (K0 : fh T A n t G → Q (some (vi 0)) h 1000000) (K1 : ¬ fh T A n t G → Q (some (vi 1)) (ma_up (ma_up (ma_up (ma_up h 65 (ci 40 (uf T n t))) 66 (ci 40 (uf M n v))) 67 (ci 1280 (fp A G n))) 64 (co 0 [vi (n + 1), vr 65, vr 66, vr 67])) 1000000) :
    ∀ (m : Nat) (i : Int), 0 ≤ i → i ≤ n → n - i < m → (∀ j, 0 ≤ j → j < i → ¬ (T j = t ∧ ∀ k, 0 ≤ k → k < 4 * t → A (32 * j + k) = G k)) → ma_J none mX0_add (d + 1) 0 0 2 [some (vr 64), some (vr b), some (vi v), some (vi i)] [] h 1000000 Q := by
  unfold fp at K1
  intro m
  induction m with
  | zero => intro k h0 h1 h2; omega
  | succ m ih =>
    intro i h0 h3 h4 hk
    refine ma_iload_n dX0_add_2 rfl ?_
    refine ma_aload_n dX0_add_3 rfl ?_
    refine ma_getf dX0_add_4 fX0_21 (by first | assumption | exact ma_up_s _ _ _ | (rw [ma_up_n (by omega)]; first | assumption | exact ma_up_s _ _ _ | (rw [ma_up_n (by omega)]; first | assumption | exact ma_up_s _ _ _))) (by rfl) ?_
    refine ma_rcmp_ge 27 dX0_add_7 rfl (by constructor <;> omega) (by constructor <;> omega) (fun c7 => ?_) (fun c7 => ?_)
    · -- 27
      refine ma_aload_n dX0_add_27 rfl ?_
      refine ma_getf dX0_add_28 fX0_21 (by first | assumption | exact ma_up_s _ _ _ | (rw [ma_up_n (by omega)]; first | assumption | exact ma_up_s _ _ _ | (rw [ma_up_n (by omega)]; first | assumption | exact ma_up_s _ _ _))) (by rfl) ?_
      refine ma_bipush dX0_add_31 ?_
      refine ma_rcmp_lt 38 dX0_add_33 rfl (by constructor <;> omega) (by constructor <;> omega) (fun c33 => ?_) (fun c33 => ?_)
      · -- 38
        refine ma_aload_n dX0_add_38 rfl ?_
        refine ma_getf dX0_add_39 fX0_11 (by first | assumption | exact ma_up_s _ _ _ | (rw [ma_up_n (by omega)]; first | assumption | exact ma_up_s _ _ _ | (rw [ma_up_n (by omega)]; first | assumption | exact ma_up_s _ _ _))) (by rfl) ?_
        refine ma_aload_n dX0_add_42 rfl ?_
        refine ma_getf dX0_add_43 fX0_21 (by first | assumption | exact ma_up_s _ _ _ | (rw [ma_up_n (by omega)]; first | assumption | exact ma_up_s _ _ _ | (rw [ma_up_n (by omega)]; first | assumption | exact ma_up_s _ _ _))) (by rfl) ?_
        refine ma_aload_n dX0_add_46 rfl ?_
        refine ma_getf dX0_add_47 fX0_25 (by first | assumption | exact ma_up_s _ _ _ | (rw [ma_up_n (by omega)]; first | assumption | exact ma_up_s _ _ _ | (rw [ma_up_n (by omega)]; first | assumption | exact ma_up_s _ _ _))) (by rfl) ?_
        refine ma_iast dX0_add_50 (by first | assumption | exact ma_up_s _ _ _ | (rw [ma_up_n (by omega)]; first | assumption | exact ma_up_s _ _ _ | (rw [ma_up_n (by omega)]; first | assumption | exact ma_up_s _ _ _))) (by omega) (by omega) (by omega) ?_
        refine ma_aload_n dX0_add_51 rfl ?_
        refine ma_getf dX0_add_52 fX0_15 (by first | assumption | exact ma_up_s _ _ _ | (rw [ma_up_n (by omega)]; first | assumption | exact ma_up_s _ _ _ | (rw [ma_up_n (by omega)]; first | assumption | exact ma_up_s _ _ _))) (by rfl) ?_
        refine ma_aload_n dX0_add_55 rfl ?_
        refine ma_getf dX0_add_56 fX0_21 (by first | assumption | exact ma_up_s _ _ _ | (rw [ma_up_n (by omega)]; first | assumption | exact ma_up_s _ _ _ | (rw [ma_up_n (by omega)]; first | assumption | exact ma_up_s _ _ _))) (by rfl) ?_
        refine ma_iload_n dX0_add_59 rfl ?_
        refine ma_iast dX0_add_60 (by first | assumption | exact ma_up_s _ _ _ | (rw [ma_up_n (by omega)]; first | assumption | exact ma_up_s _ _ _ | (rw [ma_up_n (by omega)]; first | assumption | exact ma_up_s _ _ _))) (by omega) (by omega) (by omega) ?_
        refine ma_aload_n dX0_add_61 rfl ?_
        refine ma_getf dX0_add_62 fX0_29 (by first | assumption | exact ma_up_s _ _ _ | (rw [ma_up_n (by omega)]; first | assumption | exact ma_up_s _ _ _ | (rw [ma_up_n (by omega)]; first | assumption | exact ma_up_s _ _ _))) (by rfl) ?_
        refine ma_iconst dX0_add_65 ?_
        refine ma_aload_n dX0_add_66 rfl ?_
        refine ma_getf dX0_add_67 fX0_18 (by first | assumption | exact ma_up_s _ _ _ | (rw [ma_up_n (by omega)]; first | assumption | exact ma_up_s _ _ _ | (rw [ma_up_n (by omega)]; first | assumption | exact ma_up_s _ _ _))) (by rfl) ?_
        refine ma_aload_n dX0_add_70 rfl ?_
        refine ma_getf dX0_add_71 fX0_21 (by first | assumption | exact ma_up_s _ _ _ | (rw [ma_up_n (by omega)]; first | assumption | exact ma_up_s _ _ _ | (rw [ma_up_n (by omega)]; first | assumption | exact ma_up_s _ _ _))) (by rfl) ?_
        refine ma_bipush dX0_add_74 ?_
        refine ma_imul dX0_add_76 ?_
        refine ma_bipush dX0_add_77 ?_
        refine ma_copy dX0_add_79 lX0_30 ac_n ac_s ac_i (by first | assumption | exact ma_up_s _ _ _ | (rw [ma_up_n (by omega)]; first | assumption | exact ma_up_s _ _ _ | (rw [ma_up_n (by omega)]; first | assumption | exact ma_up_s _ _ _))) (by first | assumption | exact ma_up_s _ _ _ | (rw [ma_up_n (by omega)]; first | assumption | exact ma_up_s _ _ _ | (rw [ma_up_n (by omega)]; first | assumption | exact ma_up_s _ _ _))) (by omega) (by omega) (by omega) (by omega) (by omega) (by omega) (by omega) (by omega) (Nat.le_of_ble_eq_true rfl) ?_
        refine ma_aload_n dX0_add_82 rfl ?_
        refine ma_dup dX0_add_83 rfl ?_
        refine ma_getf dX0_add_84 fX0_21 (by first | assumption | exact ma_up_s _ _ _ | (rw [ma_up_n (by omega)]; first | assumption | exact ma_up_s _ _ _ | (rw [ma_up_n (by omega)]; first | assumption | exact ma_up_s _ _ _))) (by rfl) ?_
        refine ma_iconst dX0_add_87 ?_
        refine ma_iadd dX0_add_88 ?_
        refine ma_puti dX0_add_89 fX0_21 (by first | assumption | exact ma_up_s _ _ _ | (rw [ma_up_n (by omega)]; first | assumption | exact ma_up_s _ _ _ | (rw [ma_up_n (by omega)]; first | assumption | exact ma_up_s _ _ _))) (Nat.le_of_ble_eq_true rfl) ?_
        refine ma_iconst dX0_add_92 ?_
        rw [show 32 * n = n * 32 by omega] at K1
        exact ma_zret dX0_add_93 rfl (Or.inr rfl) (K1 (fun ⟨j, j0, j1, j2⟩ => hk j j0 (by omega) j2))
      · -- 36
        refine ma_iconst dX0_add_36 ?_
        exfalso; omega
    · -- 10
      refine ma_aload_n dX0_add_10 rfl ?_
      refine ma_iload_n dX0_add_11 rfl ?_
      refine ma_aload_n dX0_add_12 rfl ?_
      refine ma_cV [_, _] dX0_add_13 wX0_holds lX0_36 iX0_holds sX0_holds rfl (by first | assumption | exact ma_up_s _ _ _ | (rw [ma_up_n (by omega)]; first | assumption | exact ma_up_s _ _ _ | (rw [ma_up_n (by omega)]; first | assumption | exact ma_up_s _ _ _))) (Nat.le_of_ble_eq_true rfl) ?_
      refine c_X0_holds ha h1 h2 hb hg ht (by constructor <;> omega) hA hG (hT i h0 (by omega)) (fun hq => ?_) (fun hq => ?_)
      · -- k1
        refine ma_rif_eq 21 dX0_add_16 rfl (by decide) (fun c16 => absurd c16 (by decide)) (fun c16 => ?_)
        refine ma_iconst dX0_add_19 ?_
        exact ma_zret dX0_add_20 rfl (Or.inl rfl) (K0 ⟨i, h0, by omega, hq.1, hq.2⟩)
      · -- k0
        refine ma_rif_eq 21 dX0_add_16 rfl (by decide) (fun c16 => ?_) (fun c16 => absurd c16 (by decide))
        refine ma_iincN dX0_add_21 rfl (by decide) rfl ?_
        refine ma_goto 2 dX0_add_24 rfl ?_
        exact ih (i + 1) (by omega) (by omega) (by omega) (fun j j0 j1 => by
          rcases Int.lt_or_eq_of_le (show j ≤ i by omega) with z | z
          · exact hk j j0 z
          · rw [z]; exact hq)
theorem c_X0_add {h : ma_H} {b g d : Nat} {n t v : Int} {T A M G : Int → Int} {Q : Option ma_V → ma_H → Nat → Prop} (ha : h 64 = co 0 [vi n, vr 65, vr 66, vr 67]) (h1 : h 65 = ci 40 T) (hM : h 66 = ci 40 M) (h2 : h 67 = ci 1280 A) (hb : h b = co 8 [vi t, vr g]) (hg : h g = ci 32 G) (n1 : b ≠ 65) (n2 : b ≠ 66) (n3 : b ≠ 67) (n4 : b ≠ 64) (n5 : g ≠ 65) (n6 : g ≠ 66) (n7 : g ≠ 67) (n8 : g ≠ 64) (hn : 0 ≤ n ∧ n < 40) (ht : 0 ≤ t ∧ t ≤ 8) (hA : ∀ j, 0 ≤ j → j < 1280 → rg (A j)) (hG : ∀ j, 0 ≤ j → j < 32 → rg (G j)) (hT : ∀ j, 0 ≤ j → j < 40 → rg (T j)) (K0 : fh T A n t G → Q (some (vi 0)) h 1000000) (K1 : ¬ fh T A n t G → Q (some (vi 1)) (ma_up (ma_up (ma_up (ma_up h 65 (ci 40 (uf T n t))) 66 (ci 40 (uf M n v))) 67 (ci 1280 (fp A G n))) 64 (co 0 [vi (n + 1), vr 65, vr 66, vr 67])) 1000000) : ma_Ct mX0_add (d + 1) 0 0 [vr 64, vr b, vi v] h 1000000 Q := by
  refine ma_Ct.of (by decide +kernel) (Nat.le_of_ble_eq_true rfl) ?_
  refine ma_iconst dX0_add_0 ?_
  refine ma_istore_nN dX0_add_1 (by decide) rfl ?_
  exact l_X0_add ha h1 hM h2 hb hg n1 n2 n3 n4 n5 n6 n7 n8 hn ht hA hG hT K0 K1 41 0 (by omega) (by omega) (by omega) (fun j j0 j1 => by omega)
