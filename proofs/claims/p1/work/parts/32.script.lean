/-- four signs behind n: of v the highest byte first -/
def tx4 (T : Int → Int) (n v : Int) : Int → Int := uf (uf (uf (uf T n (v / 16777216 % 256)) (n + 1) (v / 65536 % 256)) (n + 2) (v / 256 % 256)) (n + 3) (v % 256)
/-- the sign at x, or -1 -/
def sg (T : Int → Int) (n x : Int) : Int := if 0 ≤ x ∧ x < n then T x else -1
/-- a digit at x that is below b, or -1 -/
def dg (T : Int → Int) (n x b : Int) : Int := if 0 ≤ sg T n x - 48 ∧ sg T n x - 48 < b then sg T n x - 48 else -1
theorem c_X5_append {h : ma_H} {nx d : Nat} {n v : Int} {r s : ma_V} {T : Int → Int} {Q : Option ma_V → ma_H → Nat → Prop} (ha : h 33 = co 5 [vi n, vr 34, r, s]) (hg : h 34 = ci 80 T) (hn : 0 ≤ n ∧ n ≤ 80) (hv : rg v) (K0 : 80 < n + 4 → Q (some (vi (-1))) h nx) (K : n + 4 ≤ 80 → Q (some (vi (n + 4))) (ma_up (ma_up h 34 (ci 80 (tx4 T n v))) 33 (co 5 [vi (n + 4), vr 34, r, s])) nx) : ma_Ct mX5_append d 0 0 [vr 33, vi v] h nx Q := by
  unfold rg at hv
  refine ma_Ct.of (by decide +kernel) (Nat.le_of_ble_eq_true rfl) ?_
  refine ma_aload_n dX5_append_0 rfl ?_
  refine ma_getf dX5_append_1 fX5_18 (by first | assumption | exact ma_up_s _ _ _ | (rw [ma_up_n (by omega)]; first | assumption | exact ma_up_s _ _ _ | (rw [ma_up_n (by omega)]; first | assumption | exact ma_up_s _ _ _))) (by rfl) ?_
  refine ma_iconst dX5_append_4 ?_
  refine ma_iadd dX5_append_5 ?_
  refine ma_bipush dX5_append_6 ?_
  refine ma_rcmp_le 13 dX5_append_8 rfl (by constructor <;> omega) (by constructor <;> omega) (fun c8 => ?_) (fun c8 => ?_)
  · -- 13
    refine ma_bipush dX5_append_13 ?_
    refine ma_istore_nN dX5_append_15 (by decide) rfl ?_
    refine ma_iload_n dX5_append_16 rfl ?_
    refine ma_rif_lt 52 dX5_append_17 rfl (by decide) (fun c17 => absurd c17 (by decide)) (fun c17 => ?_)
    refine ma_aload_n dX5_append_20 rfl ?_
    refine ma_getf dX5_append_21 fX5_11 (by first | assumption | exact ma_up_s _ _ _ | (rw [ma_up_n (by omega)]; first | assumption | exact ma_up_s _ _ _ | (rw [ma_up_n (by omega)]; first | assumption | exact ma_up_s _ _ _))) (by rfl) ?_
    refine ma_aload_n dX5_append_24 rfl ?_
    refine ma_getf dX5_append_25 fX5_18 (by first | assumption | exact ma_up_s _ _ _ | (rw [ma_up_n (by omega)]; first | assumption | exact ma_up_s _ _ _ | (rw [ma_up_n (by omega)]; first | assumption | exact ma_up_s _ _ _))) (by rfl) ?_
    refine ma_iload_n dX5_append_28 rfl ?_
    refine ma_iload_n dX5_append_29 rfl ?_
    refine ma_kshr 16777216 dX5_append_30 (by decide) (by constructor <;> omega) ?_
    refine ma_sipush dX5_append_31 ?_
    refine ma_kand 8 256 dX5_append_34 (by decide) (by decide +kernel) (by decide) ?_
    refine ma_iast dX5_append_35 (by first | assumption | exact ma_up_s _ _ _ | (rw [ma_up_n (by omega)]; first | assumption | exact ma_up_s _ _ _ | (rw [ma_up_n (by omega)]; first | assumption | exact ma_up_s _ _ _))) (by omega) (by omega) (by omega) ?_
    first | rw [ma_up_cm _ _ _ (by decide : 33 ≠ 34), ma_up_up] | skip
    refine ma_aload_n dX5_append_36 rfl ?_
    refine ma_dup dX5_append_37 rfl ?_
    refine ma_getf dX5_append_38 fX5_18 (by first | assumption | exact ma_up_s _ _ _ | (rw [ma_up_n (by omega)]; first | assumption | exact ma_up_s _ _ _ | (rw [ma_up_n (by omega)]; first | assumption | exact ma_up_s _ _ _))) (by rfl) ?_
    refine ma_iconst dX5_append_41 ?_
    refine ma_iadd dX5_append_42 ?_
    refine ma_puti dX5_append_43 fX5_18 (by first | assumption | exact ma_up_s _ _ _ | (rw [ma_up_n (by omega)]; first | assumption | exact ma_up_s _ _ _ | (rw [ma_up_n (by omega)]; first | assumption | exact ma_up_s _ _ _))) (Nat.le_of_ble_eq_true rfl) ?_
    first | rw [ma_up_up] | skip
    refine ma_iincN dX5_append_46 rfl (by decide) rfl ?_
    refine ma_goto 16 dX5_append_49 rfl ?_
    refine ma_iload_n dX5_append_16 rfl ?_
    refine ma_rif_lt 52 dX5_append_17 rfl (by decide) (fun c17 => absurd c17 (by decide)) (fun c17 => ?_)
    refine ma_aload_n dX5_append_20 rfl ?_
    refine ma_getf dX5_append_21 fX5_11 (by first | assumption | exact ma_up_s _ _ _ | (rw [ma_up_n (by omega)]; first | assumption | exact ma_up_s _ _ _ | (rw [ma_up_n (by omega)]; first | assumption | exact ma_up_s _ _ _))) (by rfl) ?_
    refine ma_aload_n dX5_append_24 rfl ?_
    refine ma_getf dX5_append_25 fX5_18 (by first | assumption | exact ma_up_s _ _ _ | (rw [ma_up_n (by omega)]; first | assumption | exact ma_up_s _ _ _ | (rw [ma_up_n (by omega)]; first | assumption | exact ma_up_s _ _ _))) (by rfl) ?_
    refine ma_iload_n dX5_append_28 rfl ?_
    refine ma_iload_n dX5_append_29 rfl ?_
    refine ma_kshr 65536 dX5_append_30 (by decide) (by constructor <;> omega) ?_
    refine ma_sipush dX5_append_31 ?_
    refine ma_kand 8 256 dX5_append_34 (by decide) (by decide +kernel) (by decide) ?_
    refine ma_iast dX5_append_35 (by first | assumption | exact ma_up_s _ _ _ | (rw [ma_up_n (by omega)]; first | assumption | exact ma_up_s _ _ _ | (rw [ma_up_n (by omega)]; first | assumption | exact ma_up_s _ _ _))) (by omega) (by omega) (by omega) ?_
    first | rw [ma_up_cm _ _ _ (by decide : 33 ≠ 34), ma_up_up] | skip
    refine ma_aload_n dX5_append_36 rfl ?_
    refine ma_dup dX5_append_37 rfl ?_
    refine ma_getf dX5_append_38 fX5_18 (by first | assumption | exact ma_up_s _ _ _ | (rw [ma_up_n (by omega)]; first | assumption | exact ma_up_s _ _ _ | (rw [ma_up_n (by omega)]; first | assumption | exact ma_up_s _ _ _))) (by rfl) ?_
    refine ma_iconst dX5_append_41 ?_
    refine ma_iadd dX5_append_42 ?_
    refine ma_puti dX5_append_43 fX5_18 (by first | assumption | exact ma_up_s _ _ _ | (rw [ma_up_n (by omega)]; first | assumption | exact ma_up_s _ _ _ | (rw [ma_up_n (by omega)]; first | assumption | exact ma_up_s _ _ _))) (Nat.le_of_ble_eq_true rfl) ?_
    first | rw [ma_up_up] | skip
    refine ma_iincN dX5_append_46 rfl (by decide) rfl ?_
    refine ma_goto 16 dX5_append_49 rfl ?_
    refine ma_iload_n dX5_append_16 rfl ?_
    refine ma_rif_lt 52 dX5_append_17 rfl (by decide) (fun c17 => absurd c17 (by decide)) (fun c17 => ?_)
    refine ma_aload_n dX5_append_20 rfl ?_
    refine ma_getf dX5_append_21 fX5_11 (by first | assumption | exact ma_up_s _ _ _ | (rw [ma_up_n (by omega)]; first | assumption | exact ma_up_s _ _ _ | (rw [ma_up_n (by omega)]; first | assumption | exact ma_up_s _ _ _))) (by rfl) ?_
    refine ma_aload_n dX5_append_24 rfl ?_
    refine ma_getf dX5_append_25 fX5_18 (by first | assumption | exact ma_up_s _ _ _ | (rw [ma_up_n (by omega)]; first | assumption | exact ma_up_s _ _ _ | (rw [ma_up_n (by omega)]; first | assumption | exact ma_up_s _ _ _))) (by rfl) ?_
    refine ma_iload_n dX5_append_28 rfl ?_
    refine ma_iload_n dX5_append_29 rfl ?_
    refine ma_kshr 256 dX5_append_30 (by decide) (by constructor <;> omega) ?_
    refine ma_sipush dX5_append_31 ?_
    refine ma_kand 8 256 dX5_append_34 (by decide) (by decide +kernel) (by decide) ?_
    refine ma_iast dX5_append_35 (by first | assumption | exact ma_up_s _ _ _ | (rw [ma_up_n (by omega)]; first | assumption | exact ma_up_s _ _ _ | (rw [ma_up_n (by omega)]; first | assumption | exact ma_up_s _ _ _))) (by omega) (by omega) (by omega) ?_
    first | rw [ma_up_cm _ _ _ (by decide : 33 ≠ 34), ma_up_up] | skip
    refine ma_aload_n dX5_append_36 rfl ?_
    refine ma_dup dX5_append_37 rfl ?_
    refine ma_getf dX5_append_38 fX5_18 (by first | assumption | exact ma_up_s _ _ _ | (rw [ma_up_n (by omega)]; first | assumption | exact ma_up_s _ _ _ | (rw [ma_up_n (by omega)]; first | assumption | exact ma_up_s _ _ _))) (by rfl) ?_
    refine ma_iconst dX5_append_41 ?_
    refine ma_iadd dX5_append_42 ?_
    refine ma_puti dX5_append_43 fX5_18 (by first | assumption | exact ma_up_s _ _ _ | (rw [ma_up_n (by omega)]; first | assumption | exact ma_up_s _ _ _ | (rw [ma_up_n (by omega)]; first | assumption | exact ma_up_s _ _ _))) (Nat.le_of_ble_eq_true rfl) ?_
    first | rw [ma_up_up] | skip
    refine ma_iincN dX5_append_46 rfl (by decide) rfl ?_
    refine ma_goto 16 dX5_append_49 rfl ?_
    refine ma_iload_n dX5_append_16 rfl ?_
    refine ma_rif_lt 52 dX5_append_17 rfl (by decide) (fun c17 => absurd c17 (by decide)) (fun c17 => ?_)
    refine ma_aload_n dX5_append_20 rfl ?_
    refine ma_getf dX5_append_21 fX5_11 (by first | assumption | exact ma_up_s _ _ _ | (rw [ma_up_n (by omega)]; first | assumption | exact ma_up_s _ _ _ | (rw [ma_up_n (by omega)]; first | assumption | exact ma_up_s _ _ _))) (by rfl) ?_
    refine ma_aload_n dX5_append_24 rfl ?_
    refine ma_getf dX5_append_25 fX5_18 (by first | assumption | exact ma_up_s _ _ _ | (rw [ma_up_n (by omega)]; first | assumption | exact ma_up_s _ _ _ | (rw [ma_up_n (by omega)]; first | assumption | exact ma_up_s _ _ _))) (by rfl) ?_
    refine ma_iload_n dX5_append_28 rfl ?_
    refine ma_iload_n dX5_append_29 rfl ?_
    refine ma_kshr 1 dX5_append_30 (by decide) (by constructor <;> omega) ?_
    refine ma_sipush dX5_append_31 ?_
    refine ma_kand 8 256 dX5_append_34 (by decide) (by decide +kernel) (by decide) ?_
    refine ma_iast dX5_append_35 (by first | assumption | exact ma_up_s _ _ _ | (rw [ma_up_n (by omega)]; first | assumption | exact ma_up_s _ _ _ | (rw [ma_up_n (by omega)]; first | assumption | exact ma_up_s _ _ _))) (by omega) (by omega) (by omega) ?_
    first | rw [ma_up_cm _ _ _ (by decide : 33 ≠ 34), ma_up_up] | skip
    refine ma_aload_n dX5_append_36 rfl ?_
    refine ma_dup dX5_append_37 rfl ?_
    refine ma_getf dX5_append_38 fX5_18 (by first | assumption | exact ma_up_s _ _ _ | (rw [ma_up_n (by omega)]; first | assumption | exact ma_up_s _ _ _ | (rw [ma_up_n (by omega)]; first | assumption | exact ma_up_s _ _ _))) (by rfl) ?_
    refine ma_iconst dX5_append_41 ?_
    refine ma_iadd dX5_append_42 ?_
    refine ma_puti dX5_append_43 fX5_18 (by first | assumption | exact ma_up_s _ _ _ | (rw [ma_up_n (by omega)]; first | assumption | exact ma_up_s _ _ _ | (rw [ma_up_n (by omega)]; first | assumption | exact ma_up_s _ _ _))) (Nat.le_of_ble_eq_true rfl) ?_
    first | rw [ma_up_up] | skip
    refine ma_iincN dX5_append_46 rfl (by decide) rfl ?_
    refine ma_goto 16 dX5_append_49 rfl ?_
    refine ma_iload_n dX5_append_16 rfl ?_
    refine ma_rif_lt 52 dX5_append_17 rfl (by decide) (fun c17 => ?_) (fun c17 => absurd c17 (by decide))
    refine ma_aload_n dX5_append_52 rfl ?_
    refine ma_getf dX5_append_53 fX5_18 (by first | assumption | exact ma_up_s _ _ _ | (rw [ma_up_n (by omega)]; first | assumption | exact ma_up_s _ _ _ | (rw [ma_up_n (by omega)]; first | assumption | exact ma_up_s _ _ _))) (by rfl) ?_
    exact ma_iret dX5_append_56 rfl (by have z := K (by omega); unfold tx4 at z; rw [show n + 1 + 1 + 1 + 1 = n + 4 by omega, show n + 1 + 1 + 1 = n + 3 by omega, show n + 1 + 1 = n + 2 by omega, show v / 1 = v by omega]; exact z)
  · -- 11
    refine ma_iconst dX5_append_11 ?_
    exact ma_iret dX5_append_12 rfl (K0 (by omega))
theorem c_X5_cut {h : ma_H} {nx d : Nat} {n x : Int} {r s w : ma_V} {Q : Option ma_V → ma_H → Nat → Prop} (ha : h 33 = co 5 [vi n, w, r, s]) (hn : 0 ≤ n ∧ n ≤ 80) (hx : rg x) (K0 : ¬ (0 ≤ x ∧ x ≤ n) → Q (some (vi 0)) h nx) (K1 : 0 ≤ x ∧ x ≤ n → Q (some (vi 1)) (ma_up h 33 (co 5 [vi x, w, r, s])) nx) : ma_Ct mX5_cut d 0 0 [vr 33, vi x] h nx Q := by
  unfold rg at hx
  refine ma_Ct.of (by decide +kernel) (Nat.le_of_ble_eq_true rfl) ?_
  refine ma_iload_n dX5_cut_0 rfl ?_
  refine ma_rif_lt 12 dX5_cut_1 rfl (by constructor <;> omega) (fun c1 => ?_) (fun c1 => ?_)
  · -- 12
    refine ma_iconst dX5_cut_12 ?_
    refine ma_zret dX5_cut_13 rfl ?_ ?_
    · first | exact Or.inl rfl | exact Or.inr rfl
    · first | exact K1 (by omega) | exact K0 (by omega)
  · -- 4
    refine ma_iload_n dX5_cut_4 rfl ?_
    refine ma_aload_n dX5_cut_5 rfl ?_
    refine ma_getf dX5_cut_6 fX5_18 (by first | assumption | exact ma_up_s _ _ _ | (rw [ma_up_n (by omega)]; first | assumption | exact ma_up_s _ _ _ | (rw [ma_up_n (by omega)]; first | assumption | exact ma_up_s _ _ _))) (by rfl) ?_
    refine ma_rcmp_le 14 dX5_cut_9 rfl (by constructor <;> omega) (by constructor <;> omega) (fun c9 => ?_) (fun c9 => ?_)
    · -- 14
      refine ma_aload_n dX5_cut_14 rfl ?_
      refine ma_iload_n dX5_cut_15 rfl ?_
      refine ma_puti dX5_cut_16 fX5_18 (by first | assumption | exact ma_up_s _ _ _ | (rw [ma_up_n (by omega)]; first | assumption | exact ma_up_s _ _ _ | (rw [ma_up_n (by omega)]; first | assumption | exact ma_up_s _ _ _))) (Nat.le_of_ble_eq_true rfl) ?_
      refine ma_iconst dX5_cut_19 ?_
      refine ma_zret dX5_cut_20 rfl ?_ ?_
      · first | exact Or.inl rfl | exact Or.inr rfl
      · first | exact K1 (by omega) | exact K0 (by omega)
    · -- 12
      refine ma_iconst dX5_cut_12 ?_
      refine ma_zret dX5_cut_13 rfl ?_ ?_
      · first | exact Or.inl rfl | exact Or.inr rfl
      · first | exact K1 (by omega) | exact K0 (by omega)
theorem c_X5_signAt {h : ma_H} {nx d : Nat} {n x : Int} {r s : ma_V} {T : Int → Int} {Q : Option ma_V → ma_H → Nat → Prop} (ha : h 33 = co 5 [vi n, vr 34, r, s]) (hg : h 34 = ci 80 T) (hn : 0 ≤ n ∧ n ≤ 80) (hx : rg x) (K : Q (some (vi (sg T n x))) h nx) : ma_Ct mX5_signAt d 0 0 [vr 33, vi x] h nx Q := by
  unfold rg at hx
  unfold sg at K
  refine ma_Ct.of (by decide +kernel) (Nat.le_of_ble_eq_true rfl) ?_
  refine ma_iload_n dX5_signAt_0 rfl ?_
  refine ma_rif_lt 21 dX5_signAt_1 rfl (by constructor <;> omega) (fun c1 => ?_) (fun c1 => ?_)
  · -- 21
    refine ma_iconst dX5_signAt_21 ?_
    refine ma_iret dX5_signAt_22 rfl ?_
    first | (rw [if_pos (by omega)] at K; exact K) | (rw [if_neg (by omega)] at K; exact K)
  · -- 4
    refine ma_iload_n dX5_signAt_4 rfl ?_
    refine ma_aload_n dX5_signAt_5 rfl ?_
    refine ma_getf dX5_signAt_6 fX5_18 (by first | assumption | exact ma_up_s _ _ _ | (rw [ma_up_n (by omega)]; first | assumption | exact ma_up_s _ _ _ | (rw [ma_up_n (by omega)]; first | assumption | exact ma_up_s _ _ _))) (by rfl) ?_
    refine ma_rcmp_ge 21 dX5_signAt_9 rfl (by constructor <;> omega) (by constructor <;> omega) (fun c9 => ?_) (fun c9 => ?_)
    · -- 21
      refine ma_iconst dX5_signAt_21 ?_
      refine ma_iret dX5_signAt_22 rfl ?_
      first | (rw [if_pos (by omega)] at K; exact K) | (rw [if_neg (by omega)] at K; exact K)
    · -- 12
      refine ma_aload_n dX5_signAt_12 rfl ?_
      refine ma_getf dX5_signAt_13 fX5_11 (by first | assumption | exact ma_up_s _ _ _ | (rw [ma_up_n (by omega)]; first | assumption | exact ma_up_s _ _ _ | (rw [ma_up_n (by omega)]; first | assumption | exact ma_up_s _ _ _))) (by rfl) ?_
      refine ma_iload_n dX5_signAt_16 rfl ?_
      refine ma_iald dX5_signAt_17 (by first | assumption | exact ma_up_s _ _ _ | (rw [ma_up_n (by omega)]; first | assumption | exact ma_up_s _ _ _ | (rw [ma_up_n (by omega)]; first | assumption | exact ma_up_s _ _ _))) (by omega) (by omega) (by omega) ?_
      refine ma_goto 22 dX5_signAt_18 rfl ?_
      refine ma_iret dX5_signAt_22 rfl ?_
      first | (rw [if_pos (by omega)] at K; exact K) | (rw [if_neg (by omega)] at K; exact K)
theorem c_X5_digitAt {h : ma_H} {nx d : Nat} {n x b : Int} {r s : ma_V} {T : Int → Int} {Q : Option ma_V → ma_H → Nat → Prop} (ha : h 33 = co 5 [vi n, vr 34, r, s]) (hg : h 34 = ci 80 T) (hn : 0 ≤ n ∧ n ≤ 80) (hT : ∀ j, 0 ≤ j → j < 80 → 0 ≤ T j ∧ T j < 256) (hx : rg x) (hb : rg b) (K : Q (some (vi (dg T n x b))) h nx) : ma_Ct mX5_digitAt (d + 1) 0 0 [vr 33, vi x, vi b] h nx Q := by
  have hs : -1 ≤ sg T n x ∧ sg T n x < 256 := by
    unfold sg
    split
    · have := hT x (by omega) (by omega); omega
    · omega
  unfold rg at hb
  unfold dg at K
  refine ma_Ct.of (by decide +kernel) (Nat.le_of_ble_eq_true rfl) ?_
  refine ma_aload_n dX5_digitAt_0 rfl ?_
  refine ma_iload_n dX5_digitAt_1 rfl ?_
  refine ma_cV [_] dX5_digitAt_2 wX5_signAt lX5_22 iX5_signAt sX5_signAt rfl (by first | assumption | exact ma_up_s _ _ _ | (rw [ma_up_n (by omega)]; first | assumption | exact ma_up_s _ _ _ | (rw [ma_up_n (by omega)]; first | assumption | exact ma_up_s _ _ _))) (Nat.le_of_ble_eq_true rfl) ?_
  refine c_X5_signAt ha hg hn hx ?_
  refine ma_bipush dX5_digitAt_5 ?_
  refine ma_isub dX5_digitAt_7 ?_
  refine ma_istore_nN dX5_digitAt_8 (by decide) rfl ?_
  refine ma_iload_n dX5_digitAt_9 rfl ?_
  refine ma_rif_lt 22 dX5_digitAt_10 rfl (by constructor <;> omega) (fun c10 => ?_) (fun c10 => ?_)
  · -- 22
    refine ma_iconst dX5_digitAt_22 ?_
    refine ma_iret dX5_digitAt_23 rfl ?_
    first | (rw [if_pos (by omega)] at K; exact K) | (rw [if_neg (by omega)] at K; exact K)
  · -- 13
    refine ma_iload_n dX5_digitAt_13 rfl ?_
    refine ma_iload_n dX5_digitAt_14 rfl ?_
    refine ma_rcmp_ge 22 dX5_digitAt_15 rfl (by constructor <;> omega) (by constructor <;> omega) (fun c15 => ?_) (fun c15 => ?_)
    · -- 22
      refine ma_iconst dX5_digitAt_22 ?_
      refine ma_iret dX5_digitAt_23 rfl ?_
      first | (rw [if_pos (by omega)] at K; exact K) | (rw [if_neg (by omega)] at K; exact K)
    · -- 18
      refine ma_iload_n dX5_digitAt_18 rfl ?_
      refine ma_goto 23 dX5_digitAt_19 rfl ?_
      refine ma_iret dX5_digitAt_23 rfl ?_
      first | (rw [if_pos (by omega)] at K; exact K) | (rw [if_neg (by omega)] at K; exact K)
