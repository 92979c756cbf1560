theorem ev_01 {h : ma_H} {nx d : Nat} {p n : Int} {Q : Option ma_V → ma_H → Nat → Prop} (p0 : 0 ≤ p ∧ p < 24) (K : ma_J none mX12_isEven (d + 1) 0 0 13 [some (vi p), some (vi (n + (if im p 0 ≤ im p 1 then 0 else 1))), some (vi 0), some (vi 2)] [] h nx Q) : ma_J none mX12_isEven (d + 1) 0 0 13 [some (vi p), some (vi (n)), some (vi 0), some (vi 1)] [] h nx Q := by
  refine ma_iload_n dX12_isEven_13 rfl ?_
  refine ma_iconst dX12_isEven_14 ?_
  refine ma_rcmp_ge 45 dX12_isEven_15 rfl (by decide) (by decide) (fun c15 => absurd c15 (by decide)) (fun c15 => ?_)
  refine ma_iload_n dX12_isEven_18 rfl ?_
  refine ma_iload_n dX12_isEven_19 rfl ?_
  refine ma_iload_n dX12_isEven_20 rfl ?_
  refine ma_cS [_, _] dX12_isEven_21 wX12_image lX12_124 tX12_image (Nat.le_of_ble_eq_true rfl) ?_
  refine c_X12_image p0 (by decide) ?_
  refine ma_iload_n dX12_isEven_24 rfl ?_
  refine ma_iload_n dX12_isEven_25 rfl ?_
  refine ma_cS [_, _] dX12_isEven_26 wX12_image lX12_124 tX12_image (Nat.le_of_ble_eq_true rfl) ?_
  refine c_X12_image p0 (by decide) ?_
  have i1 := im_in p0.1 p0.2 (show (0 : Int) ≤ 0 by decide) (by decide)
  have i2 := im_in p0.1 p0.2 (show (0 : Int) ≤ 1 by decide) (by decide)
  refine ma_rcmp_le 36 dX12_isEven_29 rfl (by constructor <;> omega) (by constructor <;> omega) (fun c29 => ?_) (fun c29 => ?_)
  · -- 36
    refine ma_iconst dX12_isEven_36 ?_
    refine ma_iadd dX12_isEven_37 ?_
    refine ma_istore_nN dX12_isEven_38 (by decide) rfl ?_
    refine ma_iincK (2) dX12_isEven_39 rfl (by decide) rfl (by decide) ?_
    refine ma_goto 13 dX12_isEven_42 rfl ?_
    rw [if_pos (by omega)] at K
    exact K
  · -- 32
    refine ma_iconst dX12_isEven_32 ?_
    refine ma_goto 37 dX12_isEven_33 rfl ?_
    refine ma_iadd dX12_isEven_37 ?_
    refine ma_istore_nN dX12_isEven_38 (by decide) rfl ?_
    refine ma_iincK (2) dX12_isEven_39 rfl (by decide) rfl (by decide) ?_
    refine ma_goto 13 dX12_isEven_42 rfl ?_
    rw [if_neg (by omega)] at K
    exact K
theorem ev_02 {h : ma_H} {nx d : Nat} {p n : Int} {Q : Option ma_V → ma_H → Nat → Prop} (p0 : 0 ≤ p ∧ p < 24) (K : ma_J none mX12_isEven (d + 1) 0 0 13 [some (vi p), some (vi (n + (if im p 0 ≤ im p 2 then 0 else 1))), some (vi 0), some (vi 3)] [] h nx Q) : ma_J none mX12_isEven (d + 1) 0 0 13 [some (vi p), some (vi (n)), some (vi 0), some (vi 2)] [] h nx Q := by
  refine ma_iload_n dX12_isEven_13 rfl ?_
  refine ma_iconst dX12_isEven_14 ?_
  refine ma_rcmp_ge 45 dX12_isEven_15 rfl (by decide) (by decide) (fun c15 => absurd c15 (by decide)) (fun c15 => ?_)
  refine ma_iload_n dX12_isEven_18 rfl ?_
  refine ma_iload_n dX12_isEven_19 rfl ?_
  refine ma_iload_n dX12_isEven_20 rfl ?_
  refine ma_cS [_, _] dX12_isEven_21 wX12_image lX12_124 tX12_image (Nat.le_of_ble_eq_true rfl) ?_
  refine c_X12_image p0 (by decide) ?_
  refine ma_iload_n dX12_isEven_24 rfl ?_
  refine ma_iload_n dX12_isEven_25 rfl ?_
  refine ma_cS [_, _] dX12_isEven_26 wX12_image lX12_124 tX12_image (Nat.le_of_ble_eq_true rfl) ?_
  refine c_X12_image p0 (by decide) ?_
  have i1 := im_in p0.1 p0.2 (show (0 : Int) ≤ 0 by decide) (by decide)
  have i2 := im_in p0.1 p0.2 (show (0 : Int) ≤ 2 by decide) (by decide)
  refine ma_rcmp_le 36 dX12_isEven_29 rfl (by constructor <;> omega) (by constructor <;> omega) (fun c29 => ?_) (fun c29 => ?_)
  · -- 36
    refine ma_iconst dX12_isEven_36 ?_
    refine ma_iadd dX12_isEven_37 ?_
    refine ma_istore_nN dX12_isEven_38 (by decide) rfl ?_
    refine ma_iincK (3) dX12_isEven_39 rfl (by decide) rfl (by decide) ?_
    refine ma_goto 13 dX12_isEven_42 rfl ?_
    rw [if_pos (by omega)] at K
    exact K
  · -- 32
    refine ma_iconst dX12_isEven_32 ?_
    refine ma_goto 37 dX12_isEven_33 rfl ?_
    refine ma_iadd dX12_isEven_37 ?_
    refine ma_istore_nN dX12_isEven_38 (by decide) rfl ?_
    refine ma_iincK (3) dX12_isEven_39 rfl (by decide) rfl (by decide) ?_
    refine ma_goto 13 dX12_isEven_42 rfl ?_
    rw [if_neg (by omega)] at K
    exact K
theorem ev_03 {h : ma_H} {nx d : Nat} {p n : Int} {Q : Option ma_V → ma_H → Nat → Prop} (p0 : 0 ≤ p ∧ p < 24) (K : ma_J none mX12_isEven (d + 1) 0 0 13 [some (vi p), some (vi (n + (if im p 0 ≤ im p 3 then 0 else 1))), some (vi 0), some (vi 4)] [] h nx Q) : ma_J none mX12_isEven (d + 1) 0 0 13 [some (vi p), some (vi (n)), some (vi 0), some (vi 3)] [] h nx Q := by
  refine ma_iload_n dX12_isEven_13 rfl ?_
  refine ma_iconst dX12_isEven_14 ?_
  refine ma_rcmp_ge 45 dX12_isEven_15 rfl (by decide) (by decide) (fun c15 => absurd c15 (by decide)) (fun c15 => ?_)
  refine ma_iload_n dX12_isEven_18 rfl ?_
  refine ma_iload_n dX12_isEven_19 rfl ?_
  refine ma_iload_n dX12_isEven_20 rfl ?_
  refine ma_cS [_, _] dX12_isEven_21 wX12_image lX12_124 tX12_image (Nat.le_of_ble_eq_true rfl) ?_
  refine c_X12_image p0 (by decide) ?_
  refine ma_iload_n dX12_isEven_24 rfl ?_
  refine ma_iload_n dX12_isEven_25 rfl ?_
  refine ma_cS [_, _] dX12_isEven_26 wX12_image lX12_124 tX12_image (Nat.le_of_ble_eq_true rfl) ?_
  refine c_X12_image p0 (by decide) ?_
  have i1 := im_in p0.1 p0.2 (show (0 : Int) ≤ 0 by decide) (by decide)
  have i2 := im_in p0.1 p0.2 (show (0 : Int) ≤ 3 by decide) (by decide)
  refine ma_rcmp_le 36 dX12_isEven_29 rfl (by constructor <;> omega) (by constructor <;> omega) (fun c29 => ?_) (fun c29 => ?_)
  · -- 36
    refine ma_iconst dX12_isEven_36 ?_
    refine ma_iadd dX12_isEven_37 ?_
    refine ma_istore_nN dX12_isEven_38 (by decide) rfl ?_
    refine ma_iincK (4) dX12_isEven_39 rfl (by decide) rfl (by decide) ?_
    refine ma_goto 13 dX12_isEven_42 rfl ?_
    rw [if_pos (by omega)] at K
    exact K
  · -- 32
    refine ma_iconst dX12_isEven_32 ?_
    refine ma_goto 37 dX12_isEven_33 rfl ?_
    refine ma_iadd dX12_isEven_37 ?_
    refine ma_istore_nN dX12_isEven_38 (by decide) rfl ?_
    refine ma_iincK (4) dX12_isEven_39 rfl (by decide) rfl (by decide) ?_
    refine ma_goto 13 dX12_isEven_42 rfl ?_
    rw [if_neg (by omega)] at K
    exact K
theorem ev_12 {h : ma_H} {nx d : Nat} {p n : Int} {Q : Option ma_V → ma_H → Nat → Prop} (p0 : 0 ≤ p ∧ p < 24) (K : ma_J none mX12_isEven (d + 1) 0 0 13 [some (vi p), some (vi (n + (if im p 1 ≤ im p 2 then 0 else 1))), some (vi 1), some (vi 3)] [] h nx Q) : ma_J none mX12_isEven (d + 1) 0 0 13 [some (vi p), some (vi (n)), some (vi 1), some (vi 2)] [] h nx Q := by
  refine ma_iload_n dX12_isEven_13 rfl ?_
  refine ma_iconst dX12_isEven_14 ?_
  refine ma_rcmp_ge 45 dX12_isEven_15 rfl (by decide) (by decide) (fun c15 => absurd c15 (by decide)) (fun c15 => ?_)
  refine ma_iload_n dX12_isEven_18 rfl ?_
  refine ma_iload_n dX12_isEven_19 rfl ?_
  refine ma_iload_n dX12_isEven_20 rfl ?_
  refine ma_cS [_, _] dX12_isEven_21 wX12_image lX12_124 tX12_image (Nat.le_of_ble_eq_true rfl) ?_
  refine c_X12_image p0 (by decide) ?_
  refine ma_iload_n dX12_isEven_24 rfl ?_
  refine ma_iload_n dX12_isEven_25 rfl ?_
  refine ma_cS [_, _] dX12_isEven_26 wX12_image lX12_124 tX12_image (Nat.le_of_ble_eq_true rfl) ?_
  refine c_X12_image p0 (by decide) ?_
  have i1 := im_in p0.1 p0.2 (show (0 : Int) ≤ 1 by decide) (by decide)
  have i2 := im_in p0.1 p0.2 (show (0 : Int) ≤ 2 by decide) (by decide)
  refine ma_rcmp_le 36 dX12_isEven_29 rfl (by constructor <;> omega) (by constructor <;> omega) (fun c29 => ?_) (fun c29 => ?_)
  · -- 36
    refine ma_iconst dX12_isEven_36 ?_
    refine ma_iadd dX12_isEven_37 ?_
    refine ma_istore_nN dX12_isEven_38 (by decide) rfl ?_
    refine ma_iincK (3) dX12_isEven_39 rfl (by decide) rfl (by decide) ?_
    refine ma_goto 13 dX12_isEven_42 rfl ?_
    rw [if_pos (by omega)] at K
    exact K
  · -- 32
    refine ma_iconst dX12_isEven_32 ?_
    refine ma_goto 37 dX12_isEven_33 rfl ?_
    refine ma_iadd dX12_isEven_37 ?_
    refine ma_istore_nN dX12_isEven_38 (by decide) rfl ?_
    refine ma_iincK (3) dX12_isEven_39 rfl (by decide) rfl (by decide) ?_
    refine ma_goto 13 dX12_isEven_42 rfl ?_
    rw [if_neg (by omega)] at K
    exact K
theorem ev_13 {h : ma_H} {nx d : Nat} {p n : Int} {Q : Option ma_V → ma_H → Nat → Prop} (p0 : 0 ≤ p ∧ p < 24) (K : ma_J none mX12_isEven (d + 1) 0 0 13 [some (vi p), some (vi (n + (if im p 1 ≤ im p 3 then 0 else 1))), some (vi 1), some (vi 4)] [] h nx Q) : ma_J none mX12_isEven (d + 1) 0 0 13 [some (vi p), some (vi (n)), some (vi 1), some (vi 3)] [] h nx Q := by
  refine ma_iload_n dX12_isEven_13 rfl ?_
  refine ma_iconst dX12_isEven_14 ?_
  refine ma_rcmp_ge 45 dX12_isEven_15 rfl (by decide) (by decide) (fun c15 => absurd c15 (by decide)) (fun c15 => ?_)
  refine ma_iload_n dX12_isEven_18 rfl ?_
  refine ma_iload_n dX12_isEven_19 rfl ?_
  refine ma_iload_n dX12_isEven_20 rfl ?_
  refine ma_cS [_, _] dX12_isEven_21 wX12_image lX12_124 tX12_image (Nat.le_of_ble_eq_true rfl) ?_
  refine c_X12_image p0 (by decide) ?_
  refine ma_iload_n dX12_isEven_24 rfl ?_
  refine ma_iload_n dX12_isEven_25 rfl ?_
  refine ma_cS [_, _] dX12_isEven_26 wX12_image lX12_124 tX12_image (Nat.le_of_ble_eq_true rfl) ?_
  refine c_X12_image p0 (by decide) ?_
  have i1 := im_in p0.1 p0.2 (show (0 : Int) ≤ 1 by decide) (by decide)
  have i2 := im_in p0.1 p0.2 (show (0 : Int) ≤ 3 by decide) (by decide)
  refine ma_rcmp_le 36 dX12_isEven_29 rfl (by constructor <;> omega) (by constructor <;> omega) (fun c29 => ?_) (fun c29 => ?_)
  · -- 36
    refine ma_iconst dX12_isEven_36 ?_
    refine ma_iadd dX12_isEven_37 ?_
    refine ma_istore_nN dX12_isEven_38 (by decide) rfl ?_
    refine ma_iincK (4) dX12_isEven_39 rfl (by decide) rfl (by decide) ?_
    refine ma_goto 13 dX12_isEven_42 rfl ?_
    rw [if_pos (by omega)] at K
    exact K
  · -- 32
    refine ma_iconst dX12_isEven_32 ?_
    refine ma_goto 37 dX12_isEven_33 rfl ?_
    refine ma_iadd dX12_isEven_37 ?_
    refine ma_istore_nN dX12_isEven_38 (by decide) rfl ?_
    refine ma_iincK (4) dX12_isEven_39 rfl (by decide) rfl (by decide) ?_
    refine ma_goto 13 dX12_isEven_42 rfl ?_
    rw [if_neg (by omega)] at K
    exact K
theorem ev_23 {h : ma_H} {nx d : Nat} {p n : Int} {Q : Option ma_V → ma_H → Nat → Prop} (p0 : 0 ≤ p ∧ p < 24) (K : ma_J none mX12_isEven (d + 1) 0 0 13 [some (vi p), some (vi (n + (if im p 2 ≤ im p 3 then 0 else 1))), some (vi 2), some (vi 4)] [] h nx Q) : ma_J none mX12_isEven (d + 1) 0 0 13 [some (vi p), some (vi (n)), some (vi 2), some (vi 3)] [] h nx Q := by
  refine ma_iload_n dX12_isEven_13 rfl ?_
  refine ma_iconst dX12_isEven_14 ?_
  refine ma_rcmp_ge 45 dX12_isEven_15 rfl (by decide) (by decide) (fun c15 => absurd c15 (by decide)) (fun c15 => ?_)
  refine ma_iload_n dX12_isEven_18 rfl ?_
  refine ma_iload_n dX12_isEven_19 rfl ?_
  refine ma_iload_n dX12_isEven_20 rfl ?_
  refine ma_cS [_, _] dX12_isEven_21 wX12_image lX12_124 tX12_image (Nat.le_of_ble_eq_true rfl) ?_
  refine c_X12_image p0 (by decide) ?_
  refine ma_iload_n dX12_isEven_24 rfl ?_
  refine ma_iload_n dX12_isEven_25 rfl ?_
  refine ma_cS [_, _] dX12_isEven_26 wX12_image lX12_124 tX12_image (Nat.le_of_ble_eq_true rfl) ?_
  refine c_X12_image p0 (by decide) ?_
  have i1 := im_in p0.1 p0.2 (show (0 : Int) ≤ 2 by decide) (by decide)
  have i2 := im_in p0.1 p0.2 (show (0 : Int) ≤ 3 by decide) (by decide)
  refine ma_rcmp_le 36 dX12_isEven_29 rfl (by constructor <;> omega) (by constructor <;> omega) (fun c29 => ?_) (fun c29 => ?_)
  · -- 36
    refine ma_iconst dX12_isEven_36 ?_
    refine ma_iadd dX12_isEven_37 ?_
    refine ma_istore_nN dX12_isEven_38 (by decide) rfl ?_
    refine ma_iincK (4) dX12_isEven_39 rfl (by decide) rfl (by decide) ?_
    refine ma_goto 13 dX12_isEven_42 rfl ?_
    rw [if_pos (by omega)] at K
    exact K
  · -- 32
    refine ma_iconst dX12_isEven_32 ?_
    refine ma_goto 37 dX12_isEven_33 rfl ?_
    refine ma_iadd dX12_isEven_37 ?_
    refine ma_istore_nN dX12_isEven_38 (by decide) rfl ?_
    refine ma_iincK (4) dX12_isEven_39 rfl (by decide) rfl (by decide) ?_
    refine ma_goto 13 dX12_isEven_42 rfl ?_
    rw [if_neg (by omega)] at K
    exact K
def ivs (p : Int) : Int := 0 + (if im p 0 ≤ im p 1 then 0 else 1) + (if im p 0 ≤ im p 2 then 0 else 1) + (if im p 0 ≤ im p 3 then 0 else 1) + (if im p 1 ≤ im p 2 then 0 else 1) + (if im p 1 ≤ im p 3 then 0 else 1) + (if im p 2 ≤ im p 3 then 0 else 1)
theorem ivs_n : ∀ p : Nat, p < 24 → 0 ≤ ivs p ∧ ivs p ≤ 6 ∧ ivs p % 2 = od p := by decide +kernel
theorem ivs_o {p : Int} (p0 : 0 ≤ p ∧ p < 24) : 0 ≤ ivs p ∧ ivs p ≤ 6 ∧ ivs p % 2 = od p := pm_nat (P := fun p => 0 ≤ ivs p ∧ ivs p ≤ 6 ∧ ivs p % 2 = od p) (n := 24) ivs_n p0.1 p0.2
theorem c_X12_isEven {h : ma_H} {nx d : Nat} {p : Int} {Q : Option ma_V → ma_H → Nat → Prop} (p0 : 0 ≤ p ∧ p < 24) (K1 : od p = 0 → Q (some (vi 1)) h nx) (K0 : od p = 1 → Q (some (vi 0)) h nx) : ma_Ct mX12_isEven (d + 1) 0 0 [vi p] h nx Q := by
  have ivp := ivs_o p0
  have odp := od_in p0.1 p0.2
  refine ma_Ct.of (by decide +kernel) (Nat.le_of_ble_eq_true rfl) ?_
  refine ma_iconst dX12_isEven_0 ?_
  refine ma_istore_nN dX12_isEven_1 (by decide) rfl ?_
  refine ma_iconst dX12_isEven_2 ?_
  refine ma_istore_nN dX12_isEven_3 (by decide) rfl ?_
  refine ma_iload_n dX12_isEven_4 rfl ?_
  refine ma_iconst dX12_isEven_5 ?_
  refine ma_rcmp_ge 51 dX12_isEven_6 rfl (by decide) (by decide) (fun c6 => absurd c6 (by decide)) (fun c6 => ?_)
  refine ma_iload_n dX12_isEven_9 rfl ?_
  refine ma_iconst dX12_isEven_10 ?_
  refine ma_iadd dX12_isEven_11 ?_
  refine ma_istore_nN dX12_isEven_12 (by decide) rfl ?_
  refine ev_01 p0 ?_
  refine ev_02 p0 ?_
  refine ev_03 p0 ?_
  refine ma_iload_n dX12_isEven_13 rfl ?_
  refine ma_iconst dX12_isEven_14 ?_
  refine ma_rcmp_ge 45 dX12_isEven_15 rfl (by decide) (by decide) (fun c15 => ?_) (fun c15 => absurd c15 (by decide))
  refine ma_iincK (1) dX12_isEven_45 rfl (by decide) rfl (by decide) ?_
  refine ma_goto 4 dX12_isEven_48 rfl ?_
  refine ma_iload_n dX12_isEven_4 rfl ?_
  refine ma_iconst dX12_isEven_5 ?_
  refine ma_rcmp_ge 51 dX12_isEven_6 rfl (by decide) (by decide) (fun c6 => absurd c6 (by decide)) (fun c6 => ?_)
  refine ma_iload_n dX12_isEven_9 rfl ?_
  refine ma_iconst dX12_isEven_10 ?_
  refine ma_iaddK (2) dX12_isEven_11 (by decide) ?_
  refine ma_istore_nN dX12_isEven_12 (by decide) rfl ?_
  refine ev_12 p0 ?_
  refine ev_13 p0 ?_
  refine ma_iload_n dX12_isEven_13 rfl ?_
  refine ma_iconst dX12_isEven_14 ?_
  refine ma_rcmp_ge 45 dX12_isEven_15 rfl (by decide) (by decide) (fun c15 => ?_) (fun c15 => absurd c15 (by decide))
  refine ma_iincK (2) dX12_isEven_45 rfl (by decide) rfl (by decide) ?_
  refine ma_goto 4 dX12_isEven_48 rfl ?_
  refine ma_iload_n dX12_isEven_4 rfl ?_
  refine ma_iconst dX12_isEven_5 ?_
  refine ma_rcmp_ge 51 dX12_isEven_6 rfl (by decide) (by decide) (fun c6 => absurd c6 (by decide)) (fun c6 => ?_)
  refine ma_iload_n dX12_isEven_9 rfl ?_
  refine ma_iconst dX12_isEven_10 ?_
  refine ma_iaddK (3) dX12_isEven_11 (by decide) ?_
  refine ma_istore_nN dX12_isEven_12 (by decide) rfl ?_
  refine ev_23 p0 ?_
  refine ma_iload_n dX12_isEven_13 rfl ?_
  refine ma_iconst dX12_isEven_14 ?_
  refine ma_rcmp_ge 45 dX12_isEven_15 rfl (by decide) (by decide) (fun c15 => ?_) (fun c15 => absurd c15 (by decide))
  refine ma_iincK (3) dX12_isEven_45 rfl (by decide) rfl (by decide) ?_
  refine ma_goto 4 dX12_isEven_48 rfl ?_
  refine ma_iload_n dX12_isEven_4 rfl ?_
  refine ma_iconst dX12_isEven_5 ?_
  refine ma_rcmp_ge 51 dX12_isEven_6 rfl (by decide) (by decide) (fun c6 => absurd c6 (by decide)) (fun c6 => ?_)
  refine ma_iload_n dX12_isEven_9 rfl ?_
  refine ma_iconst dX12_isEven_10 ?_
  refine ma_iaddK (4) dX12_isEven_11 (by decide) ?_
  refine ma_istore_nN dX12_isEven_12 (by decide) rfl ?_
  refine ma_iload_n dX12_isEven_13 rfl ?_
  refine ma_iconst dX12_isEven_14 ?_
  refine ma_rcmp_ge 45 dX12_isEven_15 rfl (by decide) (by decide) (fun c15 => ?_) (fun c15 => absurd c15 (by decide))
  refine ma_iincK (4) dX12_isEven_45 rfl (by decide) rfl (by decide) ?_
  refine ma_goto 4 dX12_isEven_48 rfl ?_
  refine ma_iload_n dX12_isEven_4 rfl ?_
  refine ma_iconst dX12_isEven_5 ?_
  refine ma_rcmp_ge 51 dX12_isEven_6 rfl (by decide) (by decide) (fun c6 => ?_) (fun c6 => absurd c6 (by decide))
  show ma_J none mX12_isEven (d + 1) 0 0 51 [some (vi p), some (vi (ivs p)), _, _] [] h nx Q
  refine ma_iload_n dX12_isEven_51 rfl ?_
  refine ma_iconst dX12_isEven_52 ?_
  refine ma_kmod dX12_isEven_53 (by constructor <;> omega) (by constructor <;> omega) ?_
  refine ma_rif_ne 61 dX12_isEven_54 rfl (by constructor <;> omega) (fun c54 => ?_) (fun c54 => ?_)
  · -- 61
    refine ma_iconst dX12_isEven_61 ?_
    exact ma_zret dX12_isEven_62 rfl (Or.inl rfl) (K0 (by omega))
  · -- 57
    refine ma_iconst dX12_isEven_57 ?_
    refine ma_goto 62 dX12_isEven_58 rfl ?_
    exact ma_zret dX12_isEven_62 rfl (Or.inr rfl) (K1 (by omega))
set_option maxHeartbeats 2000000 in
theorem l_ls42 {h : ma_H} {nx d : Nat} {I : Nat → Int} {t : Int} {G Aa : Int → Int} {Q : Option ma_V → ma_H → Nat → Prop} (hM : h 73 = co 12 (mo I)) (h74 : h 74 = ci 33 Aa) (hG : VG t G) (hA : AG t G Aa) (hT : TRE t G) (K1 : ∀ D, sdS G (4 * t).toNat = some D → Q (some (vi 1)) (ma_up h 89 (ci 8 D)) nx) (K0 : ∀ D, (∀ x, D x = -1 ∨ D x = 0 ∨ D x = 1) → sdS G (4 * t).toNat = none → Q (some (vi 0)) (ma_up h 89 (ci 8 D)) nx) :
    ∀ (m : Nat) (x f : Int) (D : Int → Int) (w3 w4 : Option ma_V), 0 ≤ x → x < t → 0 ≤ f → f ≤ 4 → 5 * (t - x) - f < m → sdS G (4 * x + f).toNat = some D → ma_J none mX12_laySides (d + 2) 0 0 42 [some (vr 73), some (vi x), some (vi f), w3, w4] [] (ma_up h 89 (ci 8 D)) nx Q := by
  have ht := hG.1
  intro m
  induction m with
  | zero => intro x f D w3 w4 x0 x1 f0 f1 km; omega
  | succ m ih =>
    intro x f D w3 w4 x0 x1 f0 f1 km ek
    refine ma_iload_n dX12_laySides_42 rfl ?_
    refine ma_iconst dX12_laySides_43 ?_
    refine ma_rcmp_ge 143 dX12_laySides_44 rfl (by constructor <;> omega) (by constructor <;> omega) (fun c44 => ?_) (fun c44 => ?_)
    · -- 143
      refine ma_iincN dX12_laySides_143 rfl (by decide) rfl ?_
      refine ma_goto 30 dX12_laySides_146 rfl ?_
      refine ma_iload_n dX12_laySides_30 rfl ?_
      refine ma_aload_n dX12_laySides_31 rfl ?_
      refine ma_getf dX12_laySides_32 fX12_9 (by first | exact ma_up_s _ _ _ | exact (ma_up_n (by decide)).trans hM | exact (ma_up_n (by decide)).trans h74) (by rfl) ?_
      refine ma_iconst dX12_laySides_35 ?_
      refine ma_iald dX12_laySides_36 (by first | exact ma_up_s _ _ _ | exact (ma_up_n (by decide)).trans hM | exact (ma_up_n (by decide)).trans h74) (by omega) (by omega) (by omega) ?_
      rw [hA.1]
      refine ma_rcmp_ge 149 dX12_laySides_37 rfl (by constructor <;> omega) (by constructor <;> omega) (fun c37 => ?_) (fun c37 => ?_)
      · -- 149
        refine ma_iconst dX12_laySides_149 ?_
        have e : x + 1 = t := by omega
        have ef : f = 4 := by omega
        subst ef
        rw [show 4 * x + 4 = 4 * t by omega] at ek
        exact ma_zret dX12_laySides_150 rfl (Or.inr rfl) (K1 D ek)
      · -- 40
        refine ma_iconst dX12_laySides_40 ?_
        refine ma_istore_nN dX12_laySides_41 (by decide) rfl ?_
        exact ih (x + 1) 0 D _ _ (by omega) (by omega) (by omega) (by omega) (by omega) (by rw [show 4 * (x + 1) + 0 = 4 * x + f by omega]; exact ek)
    · -- 47
      refine ma_aload_n dX12_laySides_47 rfl ?_
      refine ma_getf dX12_laySides_48 fX12_9 (by first | exact ma_up_s _ _ _ | exact (ma_up_n (by decide)).trans hM | exact (ma_up_n (by decide)).trans h74) (by rfl) ?_
      refine ma_iload_n dX12_laySides_51 rfl ?_
      refine ma_iload_n dX12_laySides_52 rfl ?_
      refine ma_cS [_, _, _] dX12_laySides_53 wX12_glue lX12_150 tX12_glue (Nat.le_of_ble_eq_true rfl) ?_
      refine c_X12_glue ((ma_up_n (by decide)).trans h74) (by omega) (by omega) ?_
      rw [show 1 + 4 * x + f = 1 + (4 * x + f) by omega, hA.2 (4 * x + f) (by omega) (by omega)]
      generalize ec : cv (G (4 * x + f)) = c
      have gk := vg_in hG (k := (4 * x + f)) (by omega) (by omega)
      have cc : (c = -1 ∧ G (4 * x + f) = -1) ∨ (0 ≤ G (4 * x + f) ∧ c / 24 = G (4 * x + f) / 32 ∧ c % 24 = G (4 * x + f) % 32 ∧ G (4 * x + f) % 32 < 24 ∧ G (4 * x + f) < 256 ∧ 0 ≤ c ∧ c < 200) := by
        rw [← ec]
        unfold cv
        split <;> omega
      have cr : -1 ≤ c ∧ c < 200 := by omega
      have st := sd_st (k := (4 * x + f)) (by omega) ek
      have dr := sd_in _ ek
      have d0 := sd_tre hT (k := (4 * x + f)) (by omega) (by omega) ek
      rw [show (4 * x + f) / 4 = x by omega] at d0
      have dx := dr x
      have dy := dr (c / 24)
      refine ma_istore_nN dX12_laySides_56 (by decide) rfl ?_
      refine ma_iload_n dX12_laySides_57 rfl ?_
      refine ma_iconst dX12_laySides_58 ?_
      refine ma_rcmp_ne 65 dX12_laySides_59 rfl (by constructor <;> omega) (by constructor <;> omega) (fun c59 => ?_) (fun c59 => ?_)
      · -- 65
        rcases cc with cc | cq
        · exact absurd cc.1 c59
        have ce : 0 ≤ c % 24 ∧ c % 24 < 24 := by omega
        refine ma_iload_n dX12_laySides_65 rfl ?_
        refine ma_bipush dX12_laySides_66 ?_
        refine ma_kmod dX12_laySides_68 (by constructor <;> omega) (by constructor <;> omega) ?_
        refine ma_cS [_] dX12_laySides_69 wX12_isEven lX12_328 tX12_isEven (Nat.le_of_ble_eq_true rfl) ?_
        refine c_X12_isEven (by omega) (fun oe => ?_) (fun oe => ?_)
        · -- k1
          refine ma_rif_eq 86 dX12_laySides_72 rfl (by decide) (fun c72 => absurd c72 (by decide)) (fun c72 => ?_)
          refine ma_iconst dX12_laySides_75 ?_
          refine ma_aload_n dX12_laySides_76 rfl ?_
          refine ma_getf dX12_laySides_77 fX12_57 (by first | exact ma_up_s _ _ _ | exact (ma_up_n (by decide)).trans hM | exact (ma_up_n (by decide)).trans h74) (by rfl) ?_
          refine ma_iload_n dX12_laySides_80 rfl ?_
          refine ma_iald dX12_laySides_81 (by first | exact ma_up_s _ _ _ | exact (ma_up_n (by decide)).trans hM | exact (ma_up_n (by decide)).trans h74) (by omega) (by omega) (by omega) ?_
          refine ma_isub dX12_laySides_82 ?_
          refine ma_goto 92 dX12_laySides_83 rfl ?_
          have du : sdu G D (4 * x + f) = 1 - D x := by
            unfold sdu b1
            rw [show (4 * x + f) / 4 = x by omega, ← cq.2.2.1, oe]
            split <;> omega
          have db := sdu_b G D (4 * x + f)
          rw [← du]
          refine ma_istoreN dX12_laySides_92 (by decide) rfl ?_
          refine ma_aload_n dX12_laySides_94 rfl ?_
          refine ma_getf dX12_laySides_95 fX12_57 (by first | exact ma_up_s _ _ _ | exact (ma_up_n (by decide)).trans hM | exact (ma_up_n (by decide)).trans h74) (by rfl) ?_
          refine ma_iload_n dX12_laySides_98 rfl ?_
          refine ma_bipush dX12_laySides_99 ?_
          refine ma_kdiv dX12_laySides_101 (by constructor <;> omega) (by constructor <;> omega) ?_
          refine ma_iald dX12_laySides_102 (by first | exact ma_up_s _ _ _ | exact (ma_up_n (by decide)).trans hM | exact (ma_up_n (by decide)).trans h74) (by omega) (by omega) (by omega) ?_
          refine ma_iconst dX12_laySides_103 ?_
          refine ma_rcmp_ne 121 dX12_laySides_104 rfl (by constructor <;> omega) (by constructor <;> omega) (fun c104 => ?_) (fun c104 => ?_)
          · -- 121
            refine ma_aload_n dX12_laySides_121 rfl ?_
            refine ma_getf dX12_laySides_122 fX12_57 (by first | exact ma_up_s _ _ _ | exact (ma_up_n (by decide)).trans hM | exact (ma_up_n (by decide)).trans h74) (by rfl) ?_
            refine ma_iload_n dX12_laySides_125 rfl ?_
            refine ma_bipush dX12_laySides_126 ?_
            refine ma_kdiv dX12_laySides_128 (by constructor <;> omega) (by constructor <;> omega) ?_
            refine ma_iald dX12_laySides_129 (by first | exact ma_up_s _ _ _ | exact (ma_up_n (by decide)).trans hM | exact (ma_up_n (by decide)).trans h74) (by omega) (by omega) (by omega) ?_
            refine ma_iload dX12_laySides_130 rfl ?_
            refine ma_rcmp_eq 137 dX12_laySides_132 rfl (by constructor <;> omega) (by constructor <;> omega) (fun c132 => ?_) (fun c132 => ?_)
            · -- 137
              refine ma_iincN dX12_laySides_137 rfl (by decide) rfl ?_
              refine ma_goto 42 dX12_laySides_140 rfl ?_
              exact ih x (f + 1) D _ _ (by omega) (by omega) (by omega) (by omega) (by omega) (by rw [show 4 * x + (f + 1) = (4 * x + f) + 1 by omega, st, if_neg (by omega), if_neg (by rw [← cq.2.1]; omega), if_pos (by rw [← cq.2.1]; omega)])
            · -- 135
              refine ma_iconst dX12_laySides_135 ?_
              exact ma_zret dX12_laySides_136 rfl (Or.inl rfl) (K0 D dr (sd_none (k := (4 * x + f) + 1) (by omega) (by omega) (by rw [st, if_neg (by omega), if_neg (by rw [← cq.2.1]; omega), if_neg (by rw [← cq.2.1]; omega)])))
          · -- 107
            refine ma_aload_n dX12_laySides_107 rfl ?_
            refine ma_getf dX12_laySides_108 fX12_57 (by first | exact ma_up_s _ _ _ | exact (ma_up_n (by decide)).trans hM | exact (ma_up_n (by decide)).trans h74) (by rfl) ?_
            refine ma_iload_n dX12_laySides_111 rfl ?_
            refine ma_bipush dX12_laySides_112 ?_
            refine ma_kdiv dX12_laySides_114 (by constructor <;> omega) (by constructor <;> omega) ?_
            refine ma_iload dX12_laySides_115 rfl ?_
            refine ma_iast dX12_laySides_117 (by first | exact ma_up_s _ _ _ | exact (ma_up_n (by decide)).trans hM | exact (ma_up_n (by decide)).trans h74) (by omega) (by omega) (by omega) ?_
            rw [ma_up_up, cq.2.1]
            refine ma_goto 137 dX12_laySides_118 rfl ?_
            refine ma_iincN dX12_laySides_137 rfl (by decide) rfl ?_
            refine ma_goto 42 dX12_laySides_140 rfl ?_
            exact ih x (f + 1) _ _ _ (by omega) (by omega) (by omega) (by omega) (by omega) (by rw [show 4 * x + (f + 1) = (4 * x + f) + 1 by omega, st, if_neg (by omega), if_pos (by rw [← cq.2.1]; omega)])
        · -- k0
          refine ma_rif_eq 86 dX12_laySides_72 rfl (by decide) (fun c72 => ?_) (fun c72 => absurd c72 (by decide))
          refine ma_aload_n dX12_laySides_86 rfl ?_
          refine ma_getf dX12_laySides_87 fX12_57 (by first | exact ma_up_s _ _ _ | exact (ma_up_n (by decide)).trans hM | exact (ma_up_n (by decide)).trans h74) (by rfl) ?_
          refine ma_iload_n dX12_laySides_90 rfl ?_
          refine ma_iald dX12_laySides_91 (by first | exact ma_up_s _ _ _ | exact (ma_up_n (by decide)).trans hM | exact (ma_up_n (by decide)).trans h74) (by omega) (by omega) (by omega) ?_
          have du : sdu G D (4 * x + f) = D x := by
            unfold sdu b1
            rw [show (4 * x + f) / 4 = x by omega, ← cq.2.2.1, oe]
            split <;> omega
          have db := sdu_b G D (4 * x + f)
          rw [← du]
          refine ma_istoreN dX12_laySides_92 (by decide) rfl ?_
          refine ma_aload_n dX12_laySides_94 rfl ?_
          refine ma_getf dX12_laySides_95 fX12_57 (by first | exact ma_up_s _ _ _ | exact (ma_up_n (by decide)).trans hM | exact (ma_up_n (by decide)).trans h74) (by rfl) ?_
          refine ma_iload_n dX12_laySides_98 rfl ?_
          refine ma_bipush dX12_laySides_99 ?_
          refine ma_kdiv dX12_laySides_101 (by constructor <;> omega) (by constructor <;> omega) ?_
          refine ma_iald dX12_laySides_102 (by first | exact ma_up_s _ _ _ | exact (ma_up_n (by decide)).trans hM | exact (ma_up_n (by decide)).trans h74) (by omega) (by omega) (by omega) ?_
          refine ma_iconst dX12_laySides_103 ?_
          refine ma_rcmp_ne 121 dX12_laySides_104 rfl (by constructor <;> omega) (by constructor <;> omega) (fun c104 => ?_) (fun c104 => ?_)
          · -- 121
            refine ma_aload_n dX12_laySides_121 rfl ?_
            refine ma_getf dX12_laySides_122 fX12_57 (by first | exact ma_up_s _ _ _ | exact (ma_up_n (by decide)).trans hM | exact (ma_up_n (by decide)).trans h74) (by rfl) ?_
            refine ma_iload_n dX12_laySides_125 rfl ?_
            refine ma_bipush dX12_laySides_126 ?_
            refine ma_kdiv dX12_laySides_128 (by constructor <;> omega) (by constructor <;> omega) ?_
            refine ma_iald dX12_laySides_129 (by first | exact ma_up_s _ _ _ | exact (ma_up_n (by decide)).trans hM | exact (ma_up_n (by decide)).trans h74) (by omega) (by omega) (by omega) ?_
            refine ma_iload dX12_laySides_130 rfl ?_
            refine ma_rcmp_eq 137 dX12_laySides_132 rfl (by constructor <;> omega) (by constructor <;> omega) (fun c132 => ?_) (fun c132 => ?_)
            · -- 137
              refine ma_iincN dX12_laySides_137 rfl (by decide) rfl ?_
              refine ma_goto 42 dX12_laySides_140 rfl ?_
              exact ih x (f + 1) D _ _ (by omega) (by omega) (by omega) (by omega) (by omega) (by rw [show 4 * x + (f + 1) = (4 * x + f) + 1 by omega, st, if_neg (by omega), if_neg (by rw [← cq.2.1]; omega), if_pos (by rw [← cq.2.1]; omega)])
            · -- 135
              refine ma_iconst dX12_laySides_135 ?_
              exact ma_zret dX12_laySides_136 rfl (Or.inl rfl) (K0 D dr (sd_none (k := (4 * x + f) + 1) (by omega) (by omega) (by rw [st, if_neg (by omega), if_neg (by rw [← cq.2.1]; omega), if_neg (by rw [← cq.2.1]; omega)])))
          · -- 107
            refine ma_aload_n dX12_laySides_107 rfl ?_
            refine ma_getf dX12_laySides_108 fX12_57 (by first | exact ma_up_s _ _ _ | exact (ma_up_n (by decide)).trans hM | exact (ma_up_n (by decide)).trans h74) (by rfl) ?_
            refine ma_iload_n dX12_laySides_111 rfl ?_
            refine ma_bipush dX12_laySides_112 ?_
            refine ma_kdiv dX12_laySides_114 (by constructor <;> omega) (by constructor <;> omega) ?_
            refine ma_iload dX12_laySides_115 rfl ?_
            refine ma_iast dX12_laySides_117 (by first | exact ma_up_s _ _ _ | exact (ma_up_n (by decide)).trans hM | exact (ma_up_n (by decide)).trans h74) (by omega) (by omega) (by omega) ?_
            rw [ma_up_up, cq.2.1]
            refine ma_goto 137 dX12_laySides_118 rfl ?_
            refine ma_iincN dX12_laySides_137 rfl (by decide) rfl ?_
            refine ma_goto 42 dX12_laySides_140 rfl ?_
            exact ih x (f + 1) _ _ _ (by omega) (by omega) (by omega) (by omega) (by omega) (by rw [show 4 * x + (f + 1) = (4 * x + f) + 1 by omega, st, if_neg (by omega), if_pos (by rw [← cq.2.1]; omega)])
      · -- 62
        refine ma_goto 137 dX12_laySides_62 rfl ?_
        refine ma_iincN dX12_laySides_137 rfl (by decide) rfl ?_
        refine ma_goto 42 dX12_laySides_140 rfl ?_
        exact ih x (f + 1) D _ _ (by omega) (by omega) (by omega) (by omega) (by omega) (by rw [show 4 * x + (f + 1) = (4 * x + f) + 1 by omega, st, if_pos (by omega)])
theorem l_ls2 {h : ma_H} {nx d : Nat} {I : Nat → Int} {t : Int} {G Aa : Int → Int} {Q : Option ma_V → ma_H → Nat → Prop} (hM : h 73 = co 12 (mo I)) (h74 : h 74 = ci 33 Aa) (hG : VG t G) (hA : AG t G Aa) (hT : TRE t G) (K1 : ∀ D, sdS G (4 * t).toNat = some D → Q (some (vi 1)) (ma_up h 89 (ci 8 D)) nx) (K0 : ∀ D, (∀ x, D x = -1 ∨ D x = 0 ∨ D x = 1) → sdS G (4 * t).toNat = none → Q (some (vi 0)) (ma_up h 89 (ci 8 D)) nx) :
    ∀ (m : Nat) (i : Int) (C : Int → Int), 0 ≤ i → i ≤ 8 → 8 - i < m → (∀ j, 0 ≤ j → j < i → C j = -1) → ma_J none mX12_laySides (d + 2) 0 0 2 [some (vr 73), some (vi i), none, none, none] [] (ma_up h 89 (ci 8 C)) nx Q := by
  have ht := hG.1
  intro m
  induction m with
  | zero => intro i C i0 i1 im; omega
  | succ m ih =>
    intro i C i0 i1 im hC
    refine ma_iload_n dX12_laySides_2 rfl ?_
    refine ma_bipush dX12_laySides_3 ?_
    refine ma_rcmp_ge 21 dX12_laySides_5 rfl (by constructor <;> omega) (by constructor <;> omega) (fun c5 => ?_) (fun c5 => ?_)
    · -- 21
      refine ma_aload_n dX12_laySides_21 rfl ?_
      refine ma_getf dX12_laySides_22 fX12_57 (by first | exact ma_up_s _ _ _ | exact (ma_up_n (by decide)).trans hM | exact (ma_up_n (by decide)).trans h74) (by rfl) ?_
      refine ma_iconst dX12_laySides_25 ?_
      refine ma_iconst dX12_laySides_26 ?_
      refine ma_iast dX12_laySides_27 (by first | exact ma_up_s _ _ _ | exact (ma_up_n (by decide)).trans hM | exact (ma_up_n (by decide)).trans h74) (by omega) (by omega) (by omega) ?_
      rw [ma_up_up]
      refine ma_iconst dX12_laySides_28 ?_
      refine ma_istore_nN dX12_laySides_29 (by decide) rfl ?_
      refine ma_iload_n dX12_laySides_30 rfl ?_
      refine ma_aload_n dX12_laySides_31 rfl ?_
      refine ma_getf dX12_laySides_32 fX12_9 (by first | exact ma_up_s _ _ _ | exact (ma_up_n (by decide)).trans hM | exact (ma_up_n (by decide)).trans h74) (by rfl) ?_
      refine ma_iconst dX12_laySides_35 ?_
      refine ma_iald dX12_laySides_36 (by first | exact ma_up_s _ _ _ | exact (ma_up_n (by decide)).trans hM | exact (ma_up_n (by decide)).trans h74) (by omega) (by omega) (by omega) ?_
      rw [hA.1]
      refine ma_rcmp_ge 149 dX12_laySides_37 rfl (by constructor <;> omega) (by constructor <;> omega) (fun c37 => ?_) (fun c37 => ?_)
      · -- 149
        exfalso
        omega
      · -- 40
        refine ma_iconst dX12_laySides_40 ?_
        refine ma_istore_nN dX12_laySides_41 (by decide) rfl ?_
        refine ma_ext (uf (fun _ => -1) 0 0) (ma_up_s _ _ _) (fun j j0 j1 => ?_) ?_
        · unfold uf
          split
          · rfl
          · exact hC j j0 (by omega)
        rw [ma_up_up]
        exact l_ls42 hM h74 hG hA hT K1 K0 42 0 0 _ _ _ (by decide) (by omega) (by decide) (by decide) (by omega) rfl
    · -- 8
      refine ma_aload_n dX12_laySides_8 rfl ?_
      refine ma_getf dX12_laySides_9 fX12_57 (by first | exact ma_up_s _ _ _ | exact (ma_up_n (by decide)).trans hM | exact (ma_up_n (by decide)).trans h74) (by rfl) ?_
      refine ma_iload_n dX12_laySides_12 rfl ?_
      refine ma_iconst dX12_laySides_13 ?_
      refine ma_iast dX12_laySides_14 (by first | exact ma_up_s _ _ _ | exact (ma_up_n (by decide)).trans hM | exact (ma_up_n (by decide)).trans h74) (by omega) (by omega) (by omega) ?_
      rw [ma_up_up]
      refine ma_iincN dX12_laySides_15 rfl (by decide) rfl ?_
      refine ma_goto 2 dX12_laySides_18 rfl ?_
      exact ih (i + 1) _ (by omega) (by omega) (by omega) (fun j j0 j1 => by
        by_cases z : j = i
        · rw [z, uf_s]
        · rw [uf_n z]; exact hC j j0 (by omega))
theorem c_X12_laySides {h : ma_H} {nx d : Nat} {I : Nat → Int} {t : Int} {G Aa : Int → Int} {Q : Option ma_V → ma_H → Nat → Prop} (hM : h 73 = co 12 (mo I)) (h74 : h 74 = ci 33 Aa) (hG : VG t G) (hA : AG t G Aa) (hT : TRE t G) {C : Int → Int} (h89 : h 89 = ci 8 C) (K1 : ∀ D, sdS G (4 * t).toNat = some D → Q (some (vi 1)) (ma_up h 89 (ci 8 D)) nx) (K0 : ∀ D, (∀ x, D x = -1 ∨ D x = 0 ∨ D x = 1) → sdS G (4 * t).toNat = none → Q (some (vi 0)) (ma_up h 89 (ci 8 D)) nx) : ma_Ct mX12_laySides (d + 2) 0 0 [vr 73] h nx Q := by
  refine ma_Ct.of (by decide +kernel) (Nat.le_of_ble_eq_true rfl) ?_
  refine ma_iconst dX12_laySides_0 ?_
  refine ma_istore_nN dX12_laySides_1 (by decide) rfl ?_
  rw [show h = ma_up h 89 (ci 8 C) from (ma_up_id h89).symm]
  exact l_ls2 hM h74 hG hA hT K1 K0 9 0 C (by decide) (by decide) (by decide) (fun j j0 j1 => by omega)
