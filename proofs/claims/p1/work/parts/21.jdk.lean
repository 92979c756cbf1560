set_option maxHeartbeats 1000000 in
theorem l_J7_fill_53178 {h : ma_H} {a n nx d : Nat} {x : Int} {Q : Option ma_V → ma_H → Nat → Prop} (hn : n ≤ 2147483647) (K : Q none (ma_up h a (ci n (fun _ => x))) nx) :
    ∀ (m : Nat) (f : Int → Int) (i : Int), 0 ≤ i → i ≤ n → n - i < m → (∀ j, 0 ≤ j → j < i → f j = x) → ma_J none mJ7_fill_53178 d 0 0 5 [some (vr a), some (vi x), some (vi i), some (vi n)] [] (ma_up h a (ci n f)) nx Q := by
  intro m
  induction m with
  | zero => intro f i h0 h1 h2; omega
  | succ m ih =>
    intro f i h0 h1 h2 hf
    refine ma_iload_n dJ7_fill_53178_5 rfl ?_
    refine ma_iload_n dJ7_fill_53178_6 rfl ?_
    refine ma_rcmp_ge 20 dJ7_fill_53178_7 rfl (by constructor <;> omega) (by constructor <;> omega) (fun c7 => ?_) (fun c7 => ?_)
    · -- 20
      refine ma_ext (fun _ => x) (ma_up_s _ _ _) (fun j h3 h4 => hf j h3 (by omega)) ?_
      rw [ma_up_up]
      exact ma_vret dJ7_fill_53178_20 rfl K
    · -- 10
      refine ma_aload_n dJ7_fill_53178_10 rfl ?_
      refine ma_iload_n dJ7_fill_53178_11 rfl ?_
      refine ma_iload_n dJ7_fill_53178_12 rfl ?_
      refine ma_iast dJ7_fill_53178_13 (by exact ma_up_s _ _ _) (by omega) (by omega) (by omega) ?_
      refine ma_iincN dJ7_fill_53178_14 rfl (by decide) rfl ?_
      refine ma_goto 5 dJ7_fill_53178_17 rfl ?_
      rw [ma_up_up]
      exact ih (uf f i x) (i + 1) (by omega) (by omega) (by omega) (fun j h3 h4 => by unfold uf; split <;> first | rfl | exact hf j h3 (by omega))
theorem c_J7_fill_53178 {h : ma_H} {a n nx d : Nat} {x : Int} {f : Int → Int} {Q : Option ma_V → ma_H → Nat → Prop} (ha : h a = ci n f) (hn : n ≤ 2147483647) (K : Q none (ma_up h a (ci n (fun _ => x))) nx) : ma_Ct mJ7_fill_53178 d 0 0 [vr a, vi x] h nx Q := by
  refine ma_Ct.ofF (by decide +kernel) (Nat.le_of_ble_eq_true rfl) ?_
  refine ma_iconst dJ7_fill_53178_0 ?_
  refine ma_istore_nN dJ7_fill_53178_1 (by decide) rfl ?_
  refine ma_aload_n dJ7_fill_53178_2 rfl ?_
  refine ma_alen dJ7_fill_53178_3 (by first | assumption | exact ma_up_s _ _ _ | (rw [ma_up_n (by omega)]; first | assumption | exact ma_up_s _ _ _ | (rw [ma_up_n (by omega)]; first | assumption | exact ma_up_s _ _ _))) (by decide) ?_
  refine ma_istore_nN dJ7_fill_53178_4 (by decide) rfl ?_
  rw [← ma_up_id ha]; exact l_J7_fill_53178 hn K (n + 1) f 0 (by omega) (by omega) (by omega) (fun j h3 h4 => by omega)
set_option maxHeartbeats 1000000 in
theorem l_J7_fill_d0a16 {h : ma_H} {a n nx d : Nat} {x : Int} {Q : Option ma_V → ma_H → Nat → Prop} (hn : n ≤ 2147483647) (K : Q none (ma_up h a (cl n (fun _ => x))) nx) :
    ∀ (m : Nat) (f : Int → Int) (i : Int), 0 ≤ i → i ≤ n → n - i < m → (∀ j, 0 ≤ j → j < i → f j = x) → ma_J none mJ7_fill_d0a16 d 0 0 6 [some (vr a), some (vl x), none, some (vi i), some (vi n)] [] (ma_up h a (cl n f)) nx Q := by
  intro m
  induction m with
  | zero => intro f i h0 h1 h2; omega
  | succ m ih =>
    intro f i h0 h1 h2 hf
    refine ma_iload_n dJ7_fill_d0a16_6 rfl ?_
    refine ma_iload dJ7_fill_d0a16_7 rfl ?_
    refine ma_rcmp_ge 22 dJ7_fill_d0a16_9 rfl (by constructor <;> omega) (by constructor <;> omega) (fun c9 => ?_) (fun c9 => ?_)
    · -- 22
      refine ma_ext (fun _ => x) (ma_up_s _ _ _) (fun j h3 h4 => hf j h3 (by omega)) ?_
      rw [ma_up_up]
      exact ma_vret dJ7_fill_d0a16_22 rfl K
    · -- 12
      refine ma_aload_n dJ7_fill_d0a16_12 rfl ?_
      refine ma_iload_n dJ7_fill_d0a16_13 rfl ?_
      refine ma_lload_n dJ7_fill_d0a16_14 rfl ?_
      refine ma_last dJ7_fill_d0a16_15 (by exact ma_up_s _ _ _) (by omega) (by omega) (by omega) ?_
      refine ma_iincN dJ7_fill_d0a16_16 rfl (by decide) rfl ?_
      refine ma_goto 6 dJ7_fill_d0a16_19 rfl ?_
      rw [ma_up_up]
      exact ih (uf f i x) (i + 1) (by omega) (by omega) (by omega) (fun j h3 h4 => by unfold uf; split <;> first | rfl | exact hf j h3 (by omega))
theorem c_J7_fill_d0a16 {h : ma_H} {a n nx d : Nat} {x : Int} {f : Int → Int} {Q : Option ma_V → ma_H → Nat → Prop} (ha : h a = cl n f) (hn : n ≤ 2147483647) (K : Q none (ma_up h a (cl n (fun _ => x))) nx) : ma_Ct mJ7_fill_d0a16 d 0 0 [vr a, vl x] h nx Q := by
  refine ma_Ct.ofF (by decide +kernel) (Nat.le_of_ble_eq_true rfl) ?_
  refine ma_iconst dJ7_fill_d0a16_0 ?_
  refine ma_istore_nN dJ7_fill_d0a16_1 (by decide) rfl ?_
  refine ma_aload_n dJ7_fill_d0a16_2 rfl ?_
  refine ma_alen dJ7_fill_d0a16_3 (by first | assumption | exact ma_up_s _ _ _ | (rw [ma_up_n (by omega)]; first | assumption | exact ma_up_s _ _ _ | (rw [ma_up_n (by omega)]; first | assumption | exact ma_up_s _ _ _))) (by decide) ?_
  refine ma_istoreN dJ7_fill_d0a16_4 (by decide) rfl ?_
  rw [← ma_up_id ha]; exact l_J7_fill_d0a16 hn K (n + 1) f 0 (by omega) (by omega) (by omega) (fun j h3 h4 => by omega)
theorem c_J9_max_7cf53 {h : ma_H} {nx d : Nat} {x y : Int} {Q : Option ma_V → ma_H → Nat → Prop} (hx : -2147483648 ≤ x ∧ x ≤ 2147483647) (hy : -2147483648 ≤ y ∧ y ≤ 2147483647) (K : Q (some (vi (if x < y then y else x))) h nx) : ma_Ct mJ9_max_7cf53 d 0 0 [vi x, vi y] h nx Q := by
  refine ma_Ct.ofF (by decide +kernel) (Nat.le_of_ble_eq_true rfl) ?_
  refine ma_iload_n dJ9_max_7cf53_0 rfl ?_
  refine ma_iload_n dJ9_max_7cf53_1 rfl ?_
  refine ma_rcmp_lt 9 dJ9_max_7cf53_2 rfl (by constructor <;> omega) (by constructor <;> omega) (fun c2 => ?_) (fun c2 => ?_)
  · -- 9
    refine ma_iload_n dJ9_max_7cf53_9 rfl ?_
    refine ma_iret dJ9_max_7cf53_10 rfl ?_
    first | (rw [if_pos (by omega)] at K; exact K) | (rw [if_neg (by omega)] at K; exact K)
  · -- 5
    refine ma_iload_n dJ9_max_7cf53_5 rfl ?_
    refine ma_goto 10 dJ9_max_7cf53_6 rfl ?_
    refine ma_iret dJ9_max_7cf53_10 rfl ?_
    first | (rw [if_pos (by omega)] at K; exact K) | (rw [if_neg (by omega)] at K; exact K)
theorem c_J9_min_7cf53 {h : ma_H} {nx d : Nat} {x y : Int} {Q : Option ma_V → ma_H → Nat → Prop} (hx : -2147483648 ≤ x ∧ x ≤ 2147483647) (hy : -2147483648 ≤ y ∧ y ≤ 2147483647) (K : Q (some (vi (if y < x then y else x))) h nx) : ma_Ct mJ9_min_7cf53 d 0 0 [vi x, vi y] h nx Q := by
  refine ma_Ct.ofF (by decide +kernel) (Nat.le_of_ble_eq_true rfl) ?_
  refine ma_iload_n dJ9_min_7cf53_0 rfl ?_
  refine ma_iload_n dJ9_min_7cf53_1 rfl ?_
  refine ma_rcmp_gt 9 dJ9_min_7cf53_2 rfl (by constructor <;> omega) (by constructor <;> omega) (fun c2 => ?_) (fun c2 => ?_)
  · -- 9
    refine ma_iload_n dJ9_min_7cf53_9 rfl ?_
    refine ma_iret dJ9_min_7cf53_10 rfl ?_
    first | (rw [if_pos (by omega)] at K; exact K) | (rw [if_neg (by omega)] at K; exact K)
  · -- 5
    refine ma_iload_n dJ9_min_7cf53_5 rfl ?_
    refine ma_goto 10 dJ9_min_7cf53_6 rfl ?_
    refine ma_iret dJ9_min_7cf53_10 rfl ?_
    first | (rw [if_pos (by omega)] at K; exact K) | (rw [if_neg (by omega)] at K; exact K)
theorem c_J9_abs_0f7a4 {h : ma_H} {nx d : Nat} {x : Int} {Q : Option ma_V → ma_H → Nat → Prop} (hx : -2147483648 ≤ x ∧ x ≤ 2147483647) (K : Q (some (vi (if 0 ≤ x then x else -x))) h nx) : ma_Ct mJ9_abs_0f7a4 d 0 0 [vi x] h nx Q := by
  refine ma_Ct.ofF (by decide +kernel) (Nat.le_of_ble_eq_true rfl) ?_
  refine ma_iload_n dJ9_abs_0f7a4_0 rfl ?_
  refine ma_rif_ge 9 dJ9_abs_0f7a4_1 rfl (by constructor <;> omega) (fun c1 => ?_) (fun c1 => ?_)
  · -- 9
    refine ma_iload_n dJ9_abs_0f7a4_9 rfl ?_
    refine ma_iret dJ9_abs_0f7a4_10 rfl ?_
    first | (rw [if_pos (by omega)] at K; exact K) | (rw [if_neg (by omega)] at K; exact K)
  · -- 4
    refine ma_iload_n dJ9_abs_0f7a4_4 rfl ?_
    refine ma_ineg dJ9_abs_0f7a4_5 ?_
    refine ma_goto 10 dJ9_abs_0f7a4_6 rfl ?_
    refine ma_iret dJ9_abs_0f7a4_10 rfl ?_
    first | (rw [if_pos (by omega)] at K; exact K) | (rw [if_neg (by omega)] at K; exact K)
theorem jcmp_ge {x y : Int} : 0 ≤ jcmp x y ↔ jw y ≤ jw x := by
  unfold jcmp
  split
  · constructor <;> intro <;> omega
  · split <;> constructor <;> intro <;> omega
theorem jcmp_in (x y : Int) : -1 ≤ jcmp x y ∧ jcmp x y ≤ 1 := by
  unfold jcmp
  split
  · decide
  · split <;> decide
theorem c_J9_abs_067f4 {h : ma_H} {nx d : Nat} {x : Int} {Q : Option ma_V → ma_H → Nat → Prop} (hx : -9223372036854775808 ≤ x ∧ x ≤ 9223372036854775807) (K : Q (some (vl (if 0 ≤ x then x else -x))) h nx) : ma_Ct mJ9_abs_067f4 d 0 0 [vl x] h nx Q := by
  have e1 : jw x = x := jw_of hx.1 hx.2
  have e2 : jw 0 = 0 := jw_of (by omega) (by omega)
  have e3 := jcmp_in x 0
  refine ma_Ct.ofF (by decide +kernel) (Nat.le_of_ble_eq_true rfl) ?_
  refine ma_lload_n dJ9_abs_067f4_0 rfl ?_
  refine ma_lconst (z := 0) dJ9_abs_067f4_1 rfl ?_
  refine ma_lcmp dJ9_abs_067f4_2 ?_
  refine ma_rif_ge 11 dJ9_abs_067f4_3 rfl (by omega) (fun c3 => ?_) (fun c3 => ?_)
  · -- 11
    refine ma_lload_n dJ9_abs_067f4_11 rfl ?_
    refine ma_lret dJ9_abs_067f4_12 rfl ?_
    first | (rw [if_pos (by have := jcmp_ge.mp c3; omega)] at K; exact K) | (rw [if_neg (by intro q; have := (@jcmp_ge x 0).mpr (by omega); omega)] at K; exact K)
  · -- 6
    refine ma_lload_n dJ9_abs_067f4_6 rfl ?_
    refine ma_lneg dJ9_abs_067f4_7 ?_
    refine ma_goto 12 dJ9_abs_067f4_8 rfl ?_
    refine ma_lret dJ9_abs_067f4_12 rfl ?_
    first | (rw [if_pos (by have := jcmp_ge.mp c3; omega)] at K; exact K) | (rw [if_neg (by intro q; have := (@jcmp_ge x 0).mpr (by omega); omega)] at K; exact K)
