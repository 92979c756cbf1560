/-- how many of the first n are below 0 -/
def nc (f : Int → Int) : Nat → Int
  | 0 => 0
  | n + 1 => nc f n + (if f n < 0 then 1 else 0)
theorem nc_in (f : Int → Int) : ∀ n : Nat, 0 ≤ nc f n ∧ nc f n ≤ n
  | 0 => by simp [nc]
  | n + 1 => by
    have ih := nc_in f n
    unfold nc
    split <;> omega
theorem nc_s {f : Int → Int} {i : Int} (h : 0 ≤ i) : nc f (i + 1).toNat = nc f i.toNat + (if f i < 0 then 1 else 0) := by
  rw [show (i + 1).toNat = i.toNat + 1 by omega]
  show nc f i.toNat + (if f (i.toNat : Int) < 0 then 1 else 0) = _
  rw [Int.toNat_of_nonneg h]
def rg (x : Int) : Prop := -2147483648 ≤ x ∧ x ≤ 2147483647

set_option maxHeartbeats 1000000 in
theorem l_X8_freeFaces {h : ma_H} {a g nx d : Nat} {t : Int} {G : Int → Int} {Q : Option ma_V → ma_H → Nat → Prop} (ha : h a = co 8 [vi t, vr g]) (hg : h g = ci 32 G) (ht : 0 ≤ t ∧ t ≤ 8) (hG : ∀ j, 0 ≤ j → j < 32 → rg (G j)) (K : Q (some (vi (nc G (4 * t).toNat))) h nx) :
    ∀ (n : Nat) (face free : Int), 0 ≤ face → face ≤ 4 * t → 4 * t - face < n → free = nc G face.toNat → ma_J none mX8_freeFaces d 0 0 4 [some (vr a), some (vi free), some (vi face)] [] h nx Q := by
  intro n
  induction n with
  | zero => intro face free h0 h1 h2; omega
  | succ n ih =>
    intro face free h0 h1 h2 hf
    refine ma_iload_n dX8_freeFaces_4 rfl ?_
    refine ma_iconst dX8_freeFaces_5 ?_
    refine ma_aload_n dX8_freeFaces_6 rfl ?_
    refine ma_getf dX8_freeFaces_7 fX8_9 (by first | assumption | exact ma_up_s _ _ _ | (rw [ma_up_n (by omega)]; first | assumption | exact ma_up_s _ _ _ | (rw [ma_up_n (by omega)]; first | assumption | exact ma_up_s _ _ _))) (by rfl) ?_
    refine ma_imul dX8_freeFaces_10 ?_
    refine ma_rcmp_ge 32 dX8_freeFaces_11 rfl (by constructor <;> omega) (by constructor <;> omega) (fun c11 => ?_) (fun c11 => ?_)
    · -- 32
      refine ma_iload_n dX8_freeFaces_32 rfl ?_
      exact ma_iret dX8_freeFaces_33 rfl (by rw [show face = 4 * t by omega] at hf; rw [hf]; exact K)
    · -- 14
      refine ma_aload_n dX8_freeFaces_14 rfl ?_
      refine ma_getf dX8_freeFaces_15 fX8_15 (by first | assumption | exact ma_up_s _ _ _ | (rw [ma_up_n (by omega)]; first | assumption | exact ma_up_s _ _ _ | (rw [ma_up_n (by omega)]; first | assumption | exact ma_up_s _ _ _))) (by rfl) ?_
      refine ma_iload_n dX8_freeFaces_18 rfl ?_
      refine ma_iald dX8_freeFaces_19 (by first | assumption | exact ma_up_s _ _ _ | (rw [ma_up_n (by omega)]; first | assumption | exact ma_up_s _ _ _ | (rw [ma_up_n (by omega)]; first | assumption | exact ma_up_s _ _ _))) (by omega) (by omega) (by omega) ?_
      refine ma_rif_ge 26 dX8_freeFaces_20 rfl (hG _ (by omega) (by omega)) (fun c20 => ?_) (fun c20 => ?_)
      · -- 26
        refine ma_iincN dX8_freeFaces_26 rfl (by decide) rfl ?_
        refine ma_goto 4 dX8_freeFaces_29 rfl ?_
        exact ih (face + 1) _ (by omega) (by omega) (by omega) (by rw [nc_s h0, hf]; split <;> omega)
      · -- 23
        refine ma_iincN dX8_freeFaces_23 rfl (by decide) rfl ?_
        refine ma_iincN dX8_freeFaces_26 rfl (by decide) rfl ?_
        refine ma_goto 4 dX8_freeFaces_29 rfl ?_
        exact ih (face + 1) _ (by omega) (by omega) (by omega) (by rw [nc_s h0, hf]; split <;> omega)
theorem c_X8_freeFaces {h : ma_H} {a g nx d : Nat} {t : Int} {G : Int → Int} {Q : Option ma_V → ma_H → Nat → Prop} (ha : h a = co 8 [vi t, vr g]) (hg : h g = ci 32 G) (ht : 0 ≤ t ∧ t ≤ 8) (hG : ∀ j, 0 ≤ j → j < 32 → rg (G j)) (K : Q (some (vi (nc G (4 * t).toNat))) h nx) : ma_Ct mX8_freeFaces d 0 0 [vr a] h nx Q := by
  refine ma_Ct.of (by decide +kernel) (Nat.le_of_ble_eq_true rfl) ?_
  refine ma_iconst dX8_freeFaces_0 ?_
  refine ma_istore_nN dX8_freeFaces_1 (by decide) rfl ?_
  refine ma_iconst dX8_freeFaces_2 ?_
  refine ma_istore_nN dX8_freeFaces_3 (by decide) rfl ?_
  exact l_X8_freeFaces ha hg ht hG K 40 0 0 (by omega) (by omega) (by omega) rfl
theorem c_X8_hasTet {h : ma_H} {a nx d : Nat} {t : Int} {Q : Option ma_V → ma_H → Nat → Prop} {x : Int} {r : ma_V} (ha : h a = co 8 [vi t, r]) (ht : 0 ≤ t ∧ t ≤ 8) (hx : rg x) (K1 : 0 ≤ x ∧ x < t → Q (some (vi 1)) h nx) (K0 : ¬ (0 ≤ x ∧ x < t) → Q (some (vi 0)) h nx) : ma_Ct mX8_hasTet d 0 0 [vr a, vi x] h nx Q := by
  unfold rg at hx
  refine ma_Ct.of (by decide +kernel) (Nat.le_of_ble_eq_true rfl) ?_
  refine ma_iload_n dX8_hasTet_0 rfl ?_
  refine ma_rif_lt 16 dX8_hasTet_1 rfl (by constructor <;> omega) (fun c1 => ?_) (fun c1 => ?_)
  · -- 16
    refine ma_iconst dX8_hasTet_16 ?_
    refine ma_zret dX8_hasTet_17 rfl ?_ ?_
    · first | exact Or.inl rfl | exact Or.inr rfl
    · first | exact K1 (by omega) | exact K0 (by omega)
  · -- 4
    refine ma_iload_n dX8_hasTet_4 rfl ?_
    refine ma_aload_n dX8_hasTet_5 rfl ?_
    refine ma_getf dX8_hasTet_6 fX8_9 (by first | assumption | exact ma_up_s _ _ _ | (rw [ma_up_n (by omega)]; first | assumption | exact ma_up_s _ _ _ | (rw [ma_up_n (by omega)]; first | assumption | exact ma_up_s _ _ _))) (by rfl) ?_
    refine ma_rcmp_ge 16 dX8_hasTet_9 rfl (by constructor <;> omega) (by constructor <;> omega) (fun c9 => ?_) (fun c9 => ?_)
    · -- 16
      refine ma_iconst dX8_hasTet_16 ?_
      refine ma_zret dX8_hasTet_17 rfl ?_ ?_
      · first | exact Or.inl rfl | exact Or.inr rfl
      · first | exact K1 (by omega) | exact K0 (by omega)
    · -- 12
      refine ma_iconst dX8_hasTet_12 ?_
      refine ma_goto 17 dX8_hasTet_13 rfl ?_
      refine ma_zret dX8_hasTet_17 rfl ?_ ?_
      · first | exact Or.inl rfl | exact Or.inr rfl
      · first | exact K1 (by omega) | exact K0 (by omega)
theorem c_X8_hasCorner {h : ma_H} {a nx d : Nat} {t : Int} {Q : Option ma_V → ma_H → Nat → Prop} {x v : Int} {r : ma_V} (ha : h a = co 8 [vi t, r]) (ht : 0 ≤ t ∧ t ≤ 8) (hx : rg x) (hv : rg v) (K1 : 0 ≤ x ∧ x < t ∧ 0 ≤ v ∧ v < 4 → Q (some (vi 1)) h nx) (K0 : ¬ (0 ≤ x ∧ x < t ∧ 0 ≤ v ∧ v < 4) → Q (some (vi 0)) h nx) : ma_Ct mX8_hasCorner (d + 1) 0 0 [vr a, vi x, vi v] h nx Q := by
  unfold rg at hv
  refine ma_Ct.of (by decide +kernel) (Nat.le_of_ble_eq_true rfl) ?_
  refine ma_aload_n dX8_hasCorner_0 rfl ?_
  refine ma_iload_n dX8_hasCorner_1 rfl ?_
  refine ma_cV [_] dX8_hasCorner_2 wX8_hasTet lX8_31 iX8_hasTet sX8_hasTet rfl (by first | assumption | exact ma_up_s _ _ _ | (rw [ma_up_n (by omega)]; first | assumption | exact ma_up_s _ _ _ | (rw [ma_up_n (by omega)]; first | assumption | exact ma_up_s _ _ _))) (Nat.le_of_ble_eq_true rfl) ?_
  refine c_X8_hasTet ha ht hx (fun b2 => ?_) (fun b2 => ?_)
  · -- k1
    refine ma_rif_eq 21 dX8_hasCorner_5 rfl (by decide) (fun c5 => absurd c5 (by decide)) (fun c5 => ?_)
    refine ma_iload_n dX8_hasCorner_8 rfl ?_
    refine ma_rif_lt 21 dX8_hasCorner_9 rfl (by constructor <;> omega) (fun c9 => ?_) (fun c9 => ?_)
    · -- 21
      refine ma_iconst dX8_hasCorner_21 ?_
      refine ma_zret dX8_hasCorner_22 rfl ?_ ?_
      · first | exact Or.inl rfl | exact Or.inr rfl
      · first | exact K1 (by omega) | exact K0 (by omega)
    · -- 12
      refine ma_iload_n dX8_hasCorner_12 rfl ?_
      refine ma_iconst dX8_hasCorner_13 ?_
      refine ma_rcmp_ge 21 dX8_hasCorner_14 rfl (by constructor <;> omega) (by constructor <;> omega) (fun c14 => ?_) (fun c14 => ?_)
      · -- 21
        refine ma_iconst dX8_hasCorner_21 ?_
        refine ma_zret dX8_hasCorner_22 rfl ?_ ?_
        · first | exact Or.inl rfl | exact Or.inr rfl
        · first | exact K1 (by omega) | exact K0 (by omega)
      · -- 17
        refine ma_iconst dX8_hasCorner_17 ?_
        refine ma_goto 22 dX8_hasCorner_18 rfl ?_
        refine ma_zret dX8_hasCorner_22 rfl ?_ ?_
        · first | exact Or.inl rfl | exact Or.inr rfl
        · first | exact K1 (by omega) | exact K0 (by omega)
  · -- k0
    refine ma_rif_eq 21 dX8_hasCorner_5 rfl (by decide) (fun c5 => ?_) (fun c5 => absurd c5 (by decide))
    refine ma_iconst dX8_hasCorner_21 ?_
    refine ma_zret dX8_hasCorner_22 rfl ?_ ?_
    · first | exact Or.inl rfl | exact Or.inr rfl
    · first | exact K1 (by omega) | exact K0 (by omega)
theorem c_X8_hasEdge {h : ma_H} {a nx d : Nat} {t : Int} {Q : Option ma_V → ma_H → Nat → Prop} {x u v : Int} {r : ma_V} (ha : h a = co 8 [vi t, r]) (ht : 0 ≤ t ∧ t ≤ 8) (hx : rg x) (hu : rg u) (hv : rg v) (K1 : 0 ≤ x ∧ x < t ∧ 0 ≤ u ∧ u < 4 ∧ 0 ≤ v ∧ v < 4 ∧ u ≠ v → Q (some (vi 1)) h nx) (K0 : ¬ (0 ≤ x ∧ x < t ∧ 0 ≤ u ∧ u < 4 ∧ 0 ≤ v ∧ v < 4 ∧ u ≠ v) → Q (some (vi 0)) h nx) : ma_Ct mX8_hasEdge (d + 2) 0 0 [vr a, vi x, vi u, vi v] h nx Q := by
  have hu2 := hu
  unfold rg at hv hu2
  refine ma_Ct.of (by decide +kernel) (Nat.le_of_ble_eq_true rfl) ?_
  refine ma_aload_n dX8_hasEdge_0 rfl ?_
  refine ma_iload_n dX8_hasEdge_1 rfl ?_
  refine ma_iload_n dX8_hasEdge_2 rfl ?_
  refine ma_cV [_, _] dX8_hasEdge_3 wX8_hasCorner lX8_35 iX8_hasCorner sX8_hasCorner rfl (by first | assumption | exact ma_up_s _ _ _ | (rw [ma_up_n (by omega)]; first | assumption | exact ma_up_s _ _ _ | (rw [ma_up_n (by omega)]; first | assumption | exact ma_up_s _ _ _))) (Nat.le_of_ble_eq_true rfl) ?_
  refine c_X8_hasCorner ha ht hx hu (fun b3 => ?_) (fun b3 => ?_)
  · -- k1
    refine ma_rif_eq 27 dX8_hasEdge_6 rfl (by decide) (fun c6 => absurd c6 (by decide)) (fun c6 => ?_)
    refine ma_iload_n dX8_hasEdge_9 rfl ?_
    refine ma_rif_lt 27 dX8_hasEdge_10 rfl (by constructor <;> omega) (fun c10 => ?_) (fun c10 => ?_)
    · -- 27
      refine ma_iconst dX8_hasEdge_27 ?_
      refine ma_zret dX8_hasEdge_28 rfl ?_ ?_
      · first | exact Or.inl rfl | exact Or.inr rfl
      · first | exact K1 (by omega) | exact K0 (by omega)
    · -- 13
      refine ma_iload_n dX8_hasEdge_13 rfl ?_
      refine ma_iconst dX8_hasEdge_14 ?_
      refine ma_rcmp_ge 27 dX8_hasEdge_15 rfl (by constructor <;> omega) (by constructor <;> omega) (fun c15 => ?_) (fun c15 => ?_)
      · -- 27
        refine ma_iconst dX8_hasEdge_27 ?_
        refine ma_zret dX8_hasEdge_28 rfl ?_ ?_
        · first | exact Or.inl rfl | exact Or.inr rfl
        · first | exact K1 (by omega) | exact K0 (by omega)
      · -- 18
        refine ma_iload_n dX8_hasEdge_18 rfl ?_
        refine ma_iload_n dX8_hasEdge_19 rfl ?_
        refine ma_rcmp_eq 27 dX8_hasEdge_20 rfl (by constructor <;> omega) (by constructor <;> omega) (fun c20 => ?_) (fun c20 => ?_)
        · -- 27
          refine ma_iconst dX8_hasEdge_27 ?_
          refine ma_zret dX8_hasEdge_28 rfl ?_ ?_
          · first | exact Or.inl rfl | exact Or.inr rfl
          · first | exact K1 (by omega) | exact K0 (by omega)
        · -- 23
          refine ma_iconst dX8_hasEdge_23 ?_
          refine ma_goto 28 dX8_hasEdge_24 rfl ?_
          refine ma_zret dX8_hasEdge_28 rfl ?_ ?_
          · first | exact Or.inl rfl | exact Or.inr rfl
          · first | exact K1 (by omega) | exact K0 (by omega)
  · -- k0
    refine ma_rif_eq 27 dX8_hasEdge_6 rfl (by decide) (fun c6 => ?_) (fun c6 => absurd c6 (by decide))
    refine ma_iconst dX8_hasEdge_27 ?_
    refine ma_zret dX8_hasEdge_28 rfl ?_ ?_
    · first | exact Or.inl rfl | exact Or.inr rfl
    · first | exact K1 (by omega) | exact K0 (by omega)
/-- the face that a face is glued to, or -1 -/
def pt (G : Int → Int) (k : Int) : Int := if G k < 0 then -1 else 4 * (G k / 32) + im (G k % 32) (k % 4)
theorem c_X8_partner {h : ma_H} {a g nx d : Nat} {t : Int} {G : Int → Int} {Q : Option ma_V → ma_H → Nat → Prop} {k : Int} (ha : h a = co 8 [vi t, vr g]) (hg : h g = ci 32 G) (hk : 0 ≤ k ∧ k < 32) (hG : G k = -1 ∨ 0 ≤ G k ∧ G k < 256 ∧ G k % 32 < 24) (K : Q (some (vi (pt G k))) h nx) : ma_Ct mX8_partner d 0 0 [vr a, vi k] h nx Q := by
  unfold pt at K
  refine ma_Ct.of (by decide +kernel) (Nat.le_of_ble_eq_true rfl) ?_
  refine ma_aload_n dX8_partner_0 rfl ?_
  refine ma_getf dX8_partner_1 fX8_15 (by first | assumption | exact ma_up_s _ _ _ | (rw [ma_up_n (by omega)]; first | assumption | exact ma_up_s _ _ _ | (rw [ma_up_n (by omega)]; first | assumption | exact ma_up_s _ _ _))) (by rfl) ?_
  refine ma_iload_n dX8_partner_4 rfl ?_
  refine ma_iald dX8_partner_5 (by first | assumption | exact ma_up_s _ _ _ | (rw [ma_up_n (by omega)]; first | assumption | exact ma_up_s _ _ _ | (rw [ma_up_n (by omega)]; first | assumption | exact ma_up_s _ _ _))) (by omega) (by omega) (by omega) ?_
  refine ma_istore_nN dX8_partner_6 (by decide) rfl ?_
  refine ma_iload_n dX8_partner_7 rfl ?_
  refine ma_rif_ge 15 dX8_partner_8 rfl (by constructor <;> omega) (fun c8 => ?_) (fun c8 => ?_)
  · -- 15
    refine ma_iconst dX8_partner_15 ?_
    refine ma_iload_n dX8_partner_16 rfl ?_
    refine ma_iconst dX8_partner_17 ?_
    refine ma_kshr 32 dX8_partner_18 (by decide) (by constructor <;> omega) ?_
    refine ma_imul dX8_partner_19 ?_
    refine ma_getsN (j := 0) dX8_partner_20 (by decide) gX8_39 ?_
    refine ma_iconst dX8_partner_23 ?_
    refine ma_iload_n dX8_partner_24 rfl ?_
    refine ma_bipush dX8_partner_25 ?_
    refine ma_kand 5 32 dX8_partner_27 (by decide) (by decide +kernel) (by decide) ?_
    refine ma_imul dX8_partner_28 ?_
    refine ma_iload_n dX8_partner_29 rfl ?_
    refine ma_iconst dX8_partner_30 ?_
    refine ma_kand 2 4 dX8_partner_31 (by decide) (by decide +kernel) (by decide) ?_
    refine ma_iadd dX8_partner_32 ?_
    refine ma_tald (j := 0) (n := 96) dX8_partner_33 (by decide) tl_0 (by omega) (by omega) (by decide) ?_
    refine ma_iadd dX8_partner_34 ?_
    refine ma_iret dX8_partner_35 rfl ?_
    first | (rw [if_pos (by omega)] at K; exact K) | (rw [if_neg (by omega)] at K; exact K)
  · -- 11
    refine ma_iconst dX8_partner_11 ?_
    refine ma_goto 35 dX8_partner_12 rfl ?_
    refine ma_iret dX8_partner_35 rfl ?_
    first | (rw [if_pos (by omega)] at K; exact K) | (rw [if_neg (by omega)] at K; exact K)
theorem c_X8_join {h : ma_H} {a g nx d : Nat} {t : Int} {G : Int → Int} {Q : Option ma_V → ma_H → Nat → Prop} {k s p : Int} (ha : h a = co 8 [vi t, vr g]) (hg : h g = ci 32 G) (hk : 0 ≤ k ∧ k < 32) (hs : 0 ≤ s ∧ s < 8) (hp : 0 ≤ p ∧ p < 24) (K : Q none (ma_up h g (ci 32 (uf (uf G k (32 * s + p)) (4 * s + im p (k % 4)) (32 * (k / 4) + iv p)))) nx) (hag : a ≠ g) : ma_Ct mX8_join d 0 0 [vr a, vi k, vi s, vi p] h nx Q := by
  have e1 := im_in hp.1 hp.2 (show 0 ≤ k % 4 by omega) (show k % 4 < 4 by omega)
  have e2 := iv_in hp.1 hp.2
  have e3 : ma_tf 0 (4 * p + k % 4) = im p (k % 4) := rfl
  have e4 : ma_tf 1 p = iv p := rfl
  refine ma_Ct.of (by decide +kernel) (Nat.le_of_ble_eq_true rfl) ?_
  refine ma_iconst dX8_join_0 ?_
  refine ma_iload_n dX8_join_1 rfl ?_
  refine ma_imul dX8_join_2 ?_
  refine ma_getsN (j := 0) dX8_join_3 (by decide) gX8_39 ?_
  refine ma_iconst dX8_join_6 ?_
  refine ma_iload_n dX8_join_7 rfl ?_
  refine ma_imul dX8_join_8 ?_
  refine ma_iload_n dX8_join_9 rfl ?_
  refine ma_iconst dX8_join_10 ?_
  refine ma_kand 2 4 dX8_join_11 (by decide) (by decide +kernel) (by decide) ?_
  refine ma_iadd dX8_join_12 ?_
  refine ma_tald (j := 0) (n := 96) dX8_join_13 (by decide) tl_0 (by omega) (by omega) (by decide) ?_
  refine ma_iadd dX8_join_14 ?_
  refine ma_istoreN dX8_join_15 (by decide) rfl ?_
  refine ma_aload_n dX8_join_17 rfl ?_
  refine ma_getf dX8_join_18 fX8_15 (by first | assumption | exact ma_up_s _ _ _ | (rw [ma_up_n (by omega)]; first | assumption | exact ma_up_s _ _ _ | (rw [ma_up_n (by omega)]; first | assumption | exact ma_up_s _ _ _))) (by rfl) ?_
  refine ma_iload_n dX8_join_21 rfl ?_
  refine ma_iload_n dX8_join_22 rfl ?_
  refine ma_iconst dX8_join_23 ?_
  refine ma_kshl 32 dX8_join_24 (by decide) ?_
  refine ma_iload_n dX8_join_25 rfl ?_
  refine ma_kor5 dX8_join_26 (by constructor <;> omega) (by constructor <;> omega) ?_
  refine ma_iast dX8_join_27 (by first | assumption | exact ma_up_s _ _ _ | (rw [ma_up_n (by omega)]; first | assumption | exact ma_up_s _ _ _ | (rw [ma_up_n (by omega)]; first | assumption | exact ma_up_s _ _ _))) (by omega) (by omega) (by omega) ?_
  refine ma_aload_n dX8_join_28 rfl ?_
  refine ma_getf dX8_join_29 fX8_15 (by first | assumption | exact ma_up_s _ _ _ | (rw [ma_up_n (by omega)]; first | assumption | exact ma_up_s _ _ _ | (rw [ma_up_n (by omega)]; first | assumption | exact ma_up_s _ _ _))) (by rfl) ?_
  refine ma_iload dX8_join_32 rfl ?_
  refine ma_iload_n dX8_join_34 rfl ?_
  refine ma_iconst dX8_join_35 ?_
  refine ma_kshr 4 dX8_join_36 (by decide) (by constructor <;> omega) ?_
  refine ma_iconst dX8_join_37 ?_
  refine ma_kshl 32 dX8_join_38 (by decide) ?_
  refine ma_getsN (j := 1) dX8_join_39 (by decide) gX8_42 ?_
  refine ma_iload_n dX8_join_42 rfl ?_
  refine ma_tald (j := 1) (n := 24) dX8_join_43 (by decide) tl_1 (by omega) (by omega) (by decide) ?_
  refine ma_kor5 dX8_join_44 (by constructor <;> omega) (by constructor <;> omega) ?_
  refine ma_iast dX8_join_45 (by first | assumption | exact ma_up_s _ _ _ | (rw [ma_up_n (by omega)]; first | assumption | exact ma_up_s _ _ _ | (rw [ma_up_n (by omega)]; first | assumption | exact ma_up_s _ _ _))) (by omega) (by omega) (by omega) ?_
  refine ma_vret dX8_join_46 rfl ?_
  rw [ma_up_up]; exact K
theorem c_X8_free {h : ma_H} {a g nx d : Nat} {t : Int} {G : Int → Int} {Q : Option ma_V → ma_H → Nat → Prop} {k : Int} (ha : h a = co 8 [vi t, vr g]) (hg : h g = ci 32 G) (hag : a ≠ g) (hk : 0 ≤ k ∧ k < 32) (hG : G k = -1 ∨ 0 ≤ G k ∧ G k < 256 ∧ G k % 32 < 24) (K0 : G k = -1 → Q none h nx) (K1 : 0 ≤ G k → Q none (ma_up h g (ci 32 (uf (uf G (pt G k) (-1)) k (-1)))) nx) : ma_Ct mX8_free (d + 1) 0 0 [vr a, vi k] h nx Q := by
  have e1 : G k = -1 ∧ pt G k = -1 ∨ 0 ≤ G k ∧ 0 ≤ pt G k ∧ pt G k < 32 := by
    unfold pt
    rcases hG with e | e
    · exact Or.inl ⟨e, if_pos (by omega)⟩
    · have := im_in (p := G k % 32) (c := k % 4) (by omega) (by omega) (by omega) (by omega)
      rw [if_neg (by omega)]
      omega
  refine ma_Ct.of (by decide +kernel) (Nat.le_of_ble_eq_true rfl) ?_
  refine ma_aload_n dX8_free_0 rfl ?_
  refine ma_iload_n dX8_free_1 rfl ?_
  refine ma_cV [_] dX8_free_2 wX8_partner lX8_45 iX8_partner sX8_partner rfl (by first | assumption | exact ma_up_s _ _ _ | (rw [ma_up_n (by omega)]; first | assumption | exact ma_up_s _ _ _ | (rw [ma_up_n (by omega)]; first | assumption | exact ma_up_s _ _ _))) (Nat.le_of_ble_eq_true rfl) ?_
  refine c_X8_partner ha hg hk hG ?_
  refine ma_istore_nN dX8_free_5 (by decide) rfl ?_
  refine ma_iload_n dX8_free_6 rfl ?_
  refine ma_rif_lt 24 dX8_free_7 rfl (by constructor <;> omega) (fun c7 => ?_) (fun c7 => ?_)
  · -- 24
    refine ma_vret dX8_free_24 rfl ?_
    first | exact K0 (by omega) | (rw [ma_up_up]; exact K1 (by omega))
  · -- 10
    refine ma_aload_n dX8_free_10 rfl ?_
    refine ma_getf dX8_free_11 fX8_15 (by first | assumption | exact ma_up_s _ _ _ | (rw [ma_up_n (by omega)]; first | assumption | exact ma_up_s _ _ _ | (rw [ma_up_n (by omega)]; first | assumption | exact ma_up_s _ _ _))) (by rfl) ?_
    refine ma_iload_n dX8_free_14 rfl ?_
    refine ma_iconst dX8_free_15 ?_
    refine ma_iast dX8_free_16 (by first | assumption | exact ma_up_s _ _ _ | (rw [ma_up_n (by omega)]; first | assumption | exact ma_up_s _ _ _ | (rw [ma_up_n (by omega)]; first | assumption | exact ma_up_s _ _ _))) (by omega) (by omega) (by omega) ?_
    refine ma_aload_n dX8_free_17 rfl ?_
    refine ma_getf dX8_free_18 fX8_15 (by first | assumption | exact ma_up_s _ _ _ | (rw [ma_up_n (by omega)]; first | assumption | exact ma_up_s _ _ _ | (rw [ma_up_n (by omega)]; first | assumption | exact ma_up_s _ _ _))) (by rfl) ?_
    refine ma_iload_n dX8_free_21 rfl ?_
    refine ma_iconst dX8_free_22 ?_
    refine ma_iast dX8_free_23 (by first | assumption | exact ma_up_s _ _ _ | (rw [ma_up_n (by omega)]; first | assumption | exact ma_up_s _ _ _ | (rw [ma_up_n (by omega)]; first | assumption | exact ma_up_s _ _ _))) (by omega) (by omega) (by omega) ?_
    refine ma_vret dX8_free_24 rfl ?_
    first | exact K0 (by omega) | (rw [ma_up_up]; exact K1 (by omega))
theorem c_X8_clear {h : ma_H} {a g nx d : Nat} {t : Int} {G : Int → Int} {Q : Option ma_V → ma_H → Nat → Prop} {n : Int} (ha : h a = co 8 [vi t, vr g]) (hg : h g = ci 32 G) (hag : a ≠ g) (K : Q none (ma_up (ma_up h a (co 8 [vi n, vr g])) g (ci 32 (fun _ => -1))) nx) : ma_Ct mX8_clear (d + 1) 0 0 [vr a, vi n] h nx Q := by
  refine ma_Ct.of (by decide +kernel) (Nat.le_of_ble_eq_true rfl) ?_
  refine ma_aload_n dX8_clear_0 rfl ?_
  refine ma_iload_n dX8_clear_1 rfl ?_
  refine ma_puti dX8_clear_2 fX8_9 (by first | assumption | exact ma_up_s _ _ _ | (rw [ma_up_n (by omega)]; first | assumption | exact ma_up_s _ _ _ | (rw [ma_up_n (by omega)]; first | assumption | exact ma_up_s _ _ _))) (Nat.le_of_ble_eq_true rfl) ?_
  refine ma_aload_n dX8_clear_5 rfl ?_
  refine ma_getf dX8_clear_6 fX8_15 (by first | assumption | exact ma_up_s _ _ _ | (rw [ma_up_n (by omega)]; first | assumption | exact ma_up_s _ _ _ | (rw [ma_up_n (by omega)]; first | assumption | exact ma_up_s _ _ _))) (by rfl) ?_
  refine ma_iconst dX8_clear_9 ?_
  refine ma_cS [_, _] dX8_clear_10 wJ7_fill_53178 lX8_19 tJ7_fill_53178 (Nat.le_of_ble_eq_true rfl) ?_
  refine c_J7_fill_53178 ((ma_up_n (by omega)).trans hg) (by omega) ?_
  refine ma_vret dX8_clear_13 rfl ?_
  exact K
theorem c_X8_copy {h : ma_H} {a g b e d : Nat} {t u : Int} {G F : Int → Int} {Q : Option ma_V → ma_H → Nat → Prop} (ha : h a = co 8 [vi t, vr g]) (hg : h g = ci 32 G) (hb : h b = co 8 [vi u, vr e]) (he : h e = ci 32 F) (n1 : a ≠ g) (n2 : a ≠ b) (n3 : a ≠ e) (K : Q none (ma_up (ma_up h a (co 8 [vi u, vr g])) g (ci 32 F)) 1000000) : ma_Ct mX8_copy (d + 1) 0 0 [vr a, vr b] h 1000000 Q := by
  refine ma_Ct.of (by decide +kernel) (Nat.le_of_ble_eq_true rfl) ?_
  refine ma_aload_n dX8_copy_0 rfl ?_
  refine ma_aload_n dX8_copy_1 rfl ?_
  refine ma_getf dX8_copy_2 fX8_9 (by first | assumption | exact ma_up_s _ _ _ | (rw [ma_up_n (by omega)]; first | assumption | exact ma_up_s _ _ _ | (rw [ma_up_n (by omega)]; first | assumption | exact ma_up_s _ _ _))) (by rfl) ?_
  refine ma_puti dX8_copy_5 fX8_9 (by first | assumption | exact ma_up_s _ _ _ | (rw [ma_up_n (by omega)]; first | assumption | exact ma_up_s _ _ _ | (rw [ma_up_n (by omega)]; first | assumption | exact ma_up_s _ _ _))) (Nat.le_of_ble_eq_true rfl) ?_
  refine ma_aload_n dX8_copy_8 rfl ?_
  refine ma_getf dX8_copy_9 fX8_15 (by first | assumption | exact ma_up_s _ _ _ | (rw [ma_up_n (by omega)]; first | assumption | exact ma_up_s _ _ _ | (rw [ma_up_n (by omega)]; first | assumption | exact ma_up_s _ _ _))) (by rfl) ?_
  refine ma_iconst dX8_copy_12 ?_
  refine ma_aload_n dX8_copy_13 rfl ?_
  refine ma_getf dX8_copy_14 fX8_15 (by first | assumption | exact ma_up_s _ _ _ | (rw [ma_up_n (by omega)]; first | assumption | exact ma_up_s _ _ _ | (rw [ma_up_n (by omega)]; first | assumption | exact ma_up_s _ _ _))) (by rfl) ?_
  refine ma_iconst dX8_copy_17 ?_
  refine ma_bipush dX8_copy_18 ?_
  refine ma_copy dX8_copy_20 lX8_25 ac_n ac_s ac_i (by first | assumption | exact ma_up_s _ _ _ | (rw [ma_up_n (by omega)]; first | assumption | exact ma_up_s _ _ _ | (rw [ma_up_n (by omega)]; first | assumption | exact ma_up_s _ _ _))) (by first | assumption | exact ma_up_s _ _ _ | (rw [ma_up_n (by omega)]; first | assumption | exact ma_up_s _ _ _ | (rw [ma_up_n (by omega)]; first | assumption | exact ma_up_s _ _ _))) (by omega) (by omega) (by omega) (by omega) (by omega) (by omega) (by omega) (by omega) (Nat.le_of_ble_eq_true rfl) ?_
  refine ma_ext F (ma_up_s _ _ _) (fun j h3 h4 => by unfold ma_cpy; rw [if_pos (by omega)]; congr 1; omega) ?_
  rw [ma_up_up]
  exact ma_vret dX8_copy_23 rfl K
set_option maxHeartbeats 1000000 in
theorem l_X8_isLike {h : ma_H} {a g b e nx d : Nat} {t u : Int} {G F : Int → Int} {Q : Option ma_V → ma_H → Nat → Prop} (ha : h a = co 8 [vi t, vr g]) (hg : h g = ci 32 G) (hb : h b = co 8 [vi u, vr e]) (he : h e = ci 32 F) (ht : 0 ≤ t ∧ t ≤ 8) (hG : ∀ j, 0 ≤ j → j < 32 → rg (G j)) (hF : ∀ j, 0 ≤ j → j < 32 → rg (F j)) (e0 : t = u) (K1 : (t = u ∧ ∀ k, 0 ≤ k → k < 4 * t → G k = F k) → Q (some (vi 1)) h nx) (K0 : ¬ (t = u ∧ ∀ k, 0 ≤ k → k < 4 * t → G k = F k) → Q (some (vi 0)) h nx) :
    ∀ (n : Nat) (k : Int), 0 ≤ k → k ≤ 4 * t → 4 * t - k < n → (∀ j, 0 ≤ j → j < k → G j = F j) → ma_J none mX8_isLike d 0 0 15 [some (vr a), some (vr b), some (vi k)] [] h nx Q := by
  intro n
  induction n with
  | zero => intro k h0 h1 h2; omega
  | succ n ih =>
    intro k h0 h1 h2 hk
    refine ma_iload_n dX8_isLike_15 rfl ?_
    refine ma_iconst dX8_isLike_16 ?_
    refine ma_aload_n dX8_isLike_17 rfl ?_
    refine ma_getf dX8_isLike_18 fX8_9 (by first | assumption | exact ma_up_s _ _ _ | (rw [ma_up_n (by omega)]; first | assumption | exact ma_up_s _ _ _ | (rw [ma_up_n (by omega)]; first | assumption | exact ma_up_s _ _ _))) (by rfl) ?_
    refine ma_imul dX8_isLike_21 ?_
    refine ma_rcmp_ge 48 dX8_isLike_22 rfl (by constructor <;> omega) (by constructor <;> omega) (fun c22 => ?_) (fun c22 => ?_)
    · -- 48
      refine ma_iconst dX8_isLike_48 ?_
      exact ma_zret dX8_isLike_49 rfl (Or.inr rfl) (K1 ⟨e0, fun j j0 j1 => hk j j0 (by omega)⟩)
    · -- 25
      refine ma_aload_n dX8_isLike_25 rfl ?_
      refine ma_getf dX8_isLike_26 fX8_15 (by first | assumption | exact ma_up_s _ _ _ | (rw [ma_up_n (by omega)]; first | assumption | exact ma_up_s _ _ _ | (rw [ma_up_n (by omega)]; first | assumption | exact ma_up_s _ _ _))) (by rfl) ?_
      refine ma_iload_n dX8_isLike_29 rfl ?_
      refine ma_iald dX8_isLike_30 (by first | assumption | exact ma_up_s _ _ _ | (rw [ma_up_n (by omega)]; first | assumption | exact ma_up_s _ _ _ | (rw [ma_up_n (by omega)]; first | assumption | exact ma_up_s _ _ _))) (by omega) (by omega) (by omega) ?_
      refine ma_aload_n dX8_isLike_31 rfl ?_
      refine ma_getf dX8_isLike_32 fX8_15 (by first | assumption | exact ma_up_s _ _ _ | (rw [ma_up_n (by omega)]; first | assumption | exact ma_up_s _ _ _ | (rw [ma_up_n (by omega)]; first | assumption | exact ma_up_s _ _ _))) (by rfl) ?_
      refine ma_iload_n dX8_isLike_35 rfl ?_
      refine ma_iald dX8_isLike_36 (by first | assumption | exact ma_up_s _ _ _ | (rw [ma_up_n (by omega)]; first | assumption | exact ma_up_s _ _ _ | (rw [ma_up_n (by omega)]; first | assumption | exact ma_up_s _ _ _))) (by omega) (by omega) (by omega) ?_
      refine ma_rcmp_eq 42 dX8_isLike_37 rfl (hG _ (by omega) (by omega)) (hF _ (by omega) (by omega)) (fun c37 => ?_) (fun c37 => ?_)
      · -- 42
        refine ma_iincN dX8_isLike_42 rfl (by decide) rfl ?_
        refine ma_goto 15 dX8_isLike_45 rfl ?_
        exact ih (k + 1) (by omega) (by omega) (by omega) (fun j j0 j1 => by rcases Int.lt_or_eq_of_le (show j ≤ k by omega) with q | q <;> first | exact hk j j0 q | (rw [q]; exact c37))
      · -- 40
        refine ma_iconst dX8_isLike_40 ?_
        exact ma_zret dX8_isLike_41 rfl (Or.inl rfl) (K0 (fun q => c37 (q.2 k h0 (by omega))))
theorem c_X8_isLike {h : ma_H} {a g b e nx d : Nat} {t u : Int} {G F : Int → Int} {Q : Option ma_V → ma_H → Nat → Prop} (ha : h a = co 8 [vi t, vr g]) (hg : h g = ci 32 G) (hb : h b = co 8 [vi u, vr e]) (he : h e = ci 32 F) (ht : 0 ≤ t ∧ t ≤ 8) (hu : rg u) (hG : ∀ j, 0 ≤ j → j < 32 → rg (G j)) (hF : ∀ j, 0 ≤ j → j < 32 → rg (F j)) (K1 : (t = u ∧ ∀ k, 0 ≤ k → k < 4 * t → G k = F k) → Q (some (vi 1)) h nx) (K0 : ¬ (t = u ∧ ∀ k, 0 ≤ k → k < 4 * t → G k = F k) → Q (some (vi 0)) h nx) : ma_Ct mX8_isLike d 0 0 [vr a, vr b] h nx Q := by
  unfold rg at hu
  refine ma_Ct.of (by decide +kernel) (Nat.le_of_ble_eq_true rfl) ?_
  refine ma_aload_n dX8_isLike_0 rfl ?_
  refine ma_getf dX8_isLike_1 fX8_9 (by first | assumption | exact ma_up_s _ _ _ | (rw [ma_up_n (by omega)]; first | assumption | exact ma_up_s _ _ _ | (rw [ma_up_n (by omega)]; first | assumption | exact ma_up_s _ _ _))) (by rfl) ?_
  refine ma_aload_n dX8_isLike_4 rfl ?_
  refine ma_getf dX8_isLike_5 fX8_9 (by first | assumption | exact ma_up_s _ _ _ | (rw [ma_up_n (by omega)]; first | assumption | exact ma_up_s _ _ _ | (rw [ma_up_n (by omega)]; first | assumption | exact ma_up_s _ _ _))) (by rfl) ?_
  refine ma_rcmp_eq 13 dX8_isLike_8 rfl (by constructor <;> omega) (by constructor <;> omega) (fun c8 => ?_) (fun c8 => ?_)
  · -- 13
    refine ma_iconst dX8_isLike_13 ?_
    refine ma_istore_nN dX8_isLike_14 (by decide) rfl ?_
    exact l_X8_isLike ha hg hb he ht hG hF c8 K1 K0 40 0 (by omega) (by omega) (by omega) (fun j j0 j1 => by omega)
  · -- 11
    refine ma_iconst dX8_isLike_11 ?_
    exact ma_zret dX8_isLike_12 rfl (Or.inl rfl) (K0 (fun q => c8 q.1))
