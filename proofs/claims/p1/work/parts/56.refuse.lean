def plc (t kind tet u v : Int) : Int := if ¬ (0 ≤ tet ∧ tet < t) then -1 else if kind = 2 then 160 + tet else if kind = 1 then (if ¬ (0 ≤ u ∧ u < 4 ∧ 0 ≤ v ∧ v < 4 ∧ u ≠ v) then -1 else 32 + 16 * tet + 4 * (if v < u then v else u) + (if u < v then v else u)) else if ¬ (0 ≤ u ∧ u < 4) then -1 else (if kind = 0 then 0 else 168) + 4 * tet + u
theorem c_X1_placeOf {h : ma_H} {b nx d : Nat} {t kind tet u v : Int} {r : ma_V} {Q : Option ma_V → ma_H → Nat → Prop} (hb : h b = co 8 [vi t, r]) (ht : 0 ≤ t ∧ t ≤ 8) (hk : 0 ≤ kind ∧ kind < 4) (h1 : rg tet) (h2 : rg u) (h3 : rg v) (K : Q (some (vi (plc t kind tet u v))) h nx) : ma_Ct mX1_placeOf (d + 3) 0 0 [vr b, vi kind, vi tet, vi u, vi v] h nx Q := by
  have h1' := h1
  have h2' := h2
  have h3' := h3
  unfold rg at h1' h2' h3'
  unfold plc at K
  refine ma_Ct.of (by decide +kernel) (Nat.le_of_ble_eq_true rfl) ?_
  refine ma_aload_n dX1_placeOf_0 rfl ?_
  refine ma_iload_n dX1_placeOf_1 rfl ?_
  refine ma_cV [_] dX1_placeOf_2 wX8_hasTet lX1_58 iX8_hasTet sX8_hasTet rfl (by first | assumption | exact ma_up_s _ _ _ | (rw [ma_up_n (by omega)]; first | assumption | exact ma_up_s _ _ _ | (rw [ma_up_n (by omega)]; first | assumption | exact ma_up_s _ _ _))) (Nat.le_of_ble_eq_true rfl) ?_
  refine c_X8_hasTet hb ht h1 (fun hq => ?_) (fun hq => ?_)
  · -- k1
    refine ma_rif_ne 10 dX1_placeOf_5 rfl (by decide) (fun c5 => ?_) (fun c5 => absurd c5 (by decide))
    refine ma_iload_n dX1_placeOf_10 rfl ?_
    refine ma_iconst dX1_placeOf_11 ?_
    refine ma_rcmp_ne 21 dX1_placeOf_12 rfl (by constructor <;> omega) (by constructor <;> omega) (fun c12 => ?_) (fun c12 => ?_)
    · -- 21
      refine ma_iload_n dX1_placeOf_21 rfl ?_
      refine ma_iconst dX1_placeOf_22 ?_
      refine ma_rcmp_ne 63 dX1_placeOf_23 rfl (by constructor <;> omega) (by constructor <;> omega) (fun c23 => ?_) (fun c23 => ?_)
      · -- 63
        refine ma_aload_n dX1_placeOf_63 rfl ?_
        refine ma_iload_n dX1_placeOf_64 rfl ?_
        refine ma_iload_n dX1_placeOf_65 rfl ?_
        refine ma_cV [_, _] dX1_placeOf_66 wX8_hasCorner lX1_75 iX8_hasCorner sX8_hasCorner rfl (by first | assumption | exact ma_up_s _ _ _ | (rw [ma_up_n (by omega)]; first | assumption | exact ma_up_s _ _ _ | (rw [ma_up_n (by omega)]; first | assumption | exact ma_up_s _ _ _))) (Nat.le_of_ble_eq_true rfl) ?_
        refine c_X8_hasCorner hb ht h1 h2 (fun hc => ?_) (fun hc => ?_)
        · -- k1
          refine ma_rif_ne 74 dX1_placeOf_69 rfl (by decide) (fun c69 => ?_) (fun c69 => absurd c69 (by decide))
          refine ma_iload_n dX1_placeOf_74 rfl ?_
          refine ma_rif_ne 82 dX1_placeOf_75 rfl (by constructor <;> omega) (fun c75 => ?_) (fun c75 => ?_)
          · -- 82
            refine ma_sipush dX1_placeOf_82 ?_
            refine ma_iconst dX1_placeOf_85 ?_
            refine ma_iload_n dX1_placeOf_86 rfl ?_
            refine ma_imul dX1_placeOf_87 ?_
            refine ma_iadd dX1_placeOf_88 ?_
            refine ma_iload_n dX1_placeOf_89 rfl ?_
            refine ma_iadd dX1_placeOf_90 ?_
            first | (rw [if_pos (by omega)] at K; exact ma_iret dX1_placeOf_9 rfl K) | (rw [if_neg (by omega), if_pos (by omega)] at K; exact ma_iret dX1_placeOf_20 rfl K) | (rw [if_neg (by omega), if_neg (by omega), if_pos (by omega), if_pos (by omega)] at K; exact ma_iret dX1_placeOf_38 rfl K) | (rw [if_neg (by omega), if_neg (by omega), if_pos (by omega), if_neg (by omega)] at K; exact ma_iret dX1_placeOf_62 rfl K) | (rw [if_neg (by omega), if_neg (by omega), if_neg (by omega), if_pos (by omega)] at K; exact ma_iret dX1_placeOf_73 rfl K) | (rw [if_neg (by omega), if_neg (by omega), if_neg (by omega), if_neg (by omega), if_pos (by omega)] at K; exact ma_iret dX1_placeOf_91 rfl K) | (rw [if_neg (by omega), if_neg (by omega), if_neg (by omega), if_neg (by omega), if_neg (by omega)] at K; exact ma_iret dX1_placeOf_91 rfl K)
          · -- 78
            refine ma_iconst dX1_placeOf_78 ?_
            refine ma_goto 85 dX1_placeOf_79 rfl ?_
            refine ma_iconst dX1_placeOf_85 ?_
            refine ma_iload_n dX1_placeOf_86 rfl ?_
            refine ma_imul dX1_placeOf_87 ?_
            refine ma_iadd dX1_placeOf_88 ?_
            refine ma_iload_n dX1_placeOf_89 rfl ?_
            refine ma_iadd dX1_placeOf_90 ?_
            first | (rw [if_pos (by omega)] at K; exact ma_iret dX1_placeOf_9 rfl K) | (rw [if_neg (by omega), if_pos (by omega)] at K; exact ma_iret dX1_placeOf_20 rfl K) | (rw [if_neg (by omega), if_neg (by omega), if_pos (by omega), if_pos (by omega)] at K; exact ma_iret dX1_placeOf_38 rfl K) | (rw [if_neg (by omega), if_neg (by omega), if_pos (by omega), if_neg (by omega)] at K; exact ma_iret dX1_placeOf_62 rfl K) | (rw [if_neg (by omega), if_neg (by omega), if_neg (by omega), if_pos (by omega)] at K; exact ma_iret dX1_placeOf_73 rfl K) | (rw [if_neg (by omega), if_neg (by omega), if_neg (by omega), if_neg (by omega), if_pos (by omega)] at K; exact ma_iret dX1_placeOf_91 rfl K) | (rw [if_neg (by omega), if_neg (by omega), if_neg (by omega), if_neg (by omega), if_neg (by omega)] at K; exact ma_iret dX1_placeOf_91 rfl K)
        · -- k0
          refine ma_rif_ne 74 dX1_placeOf_69 rfl (by decide) (fun c69 => absurd c69 (by decide)) (fun c69 => ?_)
          refine ma_iconst dX1_placeOf_72 ?_
          first | (rw [if_pos (by omega)] at K; exact ma_iret dX1_placeOf_9 rfl K) | (rw [if_neg (by omega), if_pos (by omega)] at K; exact ma_iret dX1_placeOf_20 rfl K) | (rw [if_neg (by omega), if_neg (by omega), if_pos (by omega), if_pos (by omega)] at K; exact ma_iret dX1_placeOf_38 rfl K) | (rw [if_neg (by omega), if_neg (by omega), if_pos (by omega), if_neg (by omega)] at K; exact ma_iret dX1_placeOf_62 rfl K) | (rw [if_neg (by omega), if_neg (by omega), if_neg (by omega), if_pos (by omega)] at K; exact ma_iret dX1_placeOf_73 rfl K) | (rw [if_neg (by omega), if_neg (by omega), if_neg (by omega), if_neg (by omega), if_pos (by omega)] at K; exact ma_iret dX1_placeOf_91 rfl K) | (rw [if_neg (by omega), if_neg (by omega), if_neg (by omega), if_neg (by omega), if_neg (by omega)] at K; exact ma_iret dX1_placeOf_91 rfl K)
      · -- 26
        refine ma_aload_n dX1_placeOf_26 rfl ?_
        refine ma_iload_n dX1_placeOf_27 rfl ?_
        refine ma_iload_n dX1_placeOf_28 rfl ?_
        refine ma_iload dX1_placeOf_29 rfl ?_
        refine ma_cV [_, _, _] dX1_placeOf_31 wX8_hasEdge lX1_62 iX8_hasEdge sX8_hasEdge rfl (by first | assumption | exact ma_up_s _ _ _ | (rw [ma_up_n (by omega)]; first | assumption | exact ma_up_s _ _ _ | (rw [ma_up_n (by omega)]; first | assumption | exact ma_up_s _ _ _))) (Nat.le_of_ble_eq_true rfl) ?_
        refine c_X8_hasEdge hb ht h1 h2 h3 (fun he => ?_) (fun he => ?_)
        · -- k1
          refine ma_rif_ne 39 dX1_placeOf_34 rfl (by decide) (fun c34 => ?_) (fun c34 => absurd c34 (by decide))
          refine ma_bipush dX1_placeOf_39 ?_
          refine ma_bipush dX1_placeOf_41 ?_
          refine ma_iload_n dX1_placeOf_43 rfl ?_
          refine ma_imul dX1_placeOf_44 ?_
          refine ma_iadd dX1_placeOf_45 ?_
          refine ma_iconst dX1_placeOf_46 ?_
          refine ma_iload_n dX1_placeOf_47 rfl ?_
          refine ma_iload dX1_placeOf_48 rfl ?_
          refine ma_cS [_, _] dX1_placeOf_50 wJ9_min_7cf53 lX1_66 tJ9_min_7cf53 (Nat.le_of_ble_eq_true rfl) ?_
          refine c_J9_min_7cf53 h2 h3 ?_
          refine ma_imul dX1_placeOf_53 ?_
          refine ma_iadd dX1_placeOf_54 ?_
          refine ma_iload_n dX1_placeOf_55 rfl ?_
          refine ma_iload dX1_placeOf_56 rfl ?_
          refine ma_cS [_, _] dX1_placeOf_58 wJ9_max_7cf53 lX1_72 tJ9_max_7cf53 (Nat.le_of_ble_eq_true rfl) ?_
          refine c_J9_max_7cf53 h2 h3 ?_
          refine ma_iadd dX1_placeOf_61 ?_
          first | (rw [if_pos (by omega)] at K; exact ma_iret dX1_placeOf_9 rfl K) | (rw [if_neg (by omega), if_pos (by omega)] at K; exact ma_iret dX1_placeOf_20 rfl K) | (rw [if_neg (by omega), if_neg (by omega), if_pos (by omega), if_pos (by omega)] at K; exact ma_iret dX1_placeOf_38 rfl K) | (rw [if_neg (by omega), if_neg (by omega), if_pos (by omega), if_neg (by omega)] at K; exact ma_iret dX1_placeOf_62 rfl K) | (rw [if_neg (by omega), if_neg (by omega), if_neg (by omega), if_pos (by omega)] at K; exact ma_iret dX1_placeOf_73 rfl K) | (rw [if_neg (by omega), if_neg (by omega), if_neg (by omega), if_neg (by omega), if_pos (by omega)] at K; exact ma_iret dX1_placeOf_91 rfl K) | (rw [if_neg (by omega), if_neg (by omega), if_neg (by omega), if_neg (by omega), if_neg (by omega)] at K; exact ma_iret dX1_placeOf_91 rfl K)
        · -- k0
          refine ma_rif_ne 39 dX1_placeOf_34 rfl (by decide) (fun c34 => absurd c34 (by decide)) (fun c34 => ?_)
          refine ma_iconst dX1_placeOf_37 ?_
          first | (rw [if_pos (by omega)] at K; exact ma_iret dX1_placeOf_9 rfl K) | (rw [if_neg (by omega), if_pos (by omega)] at K; exact ma_iret dX1_placeOf_20 rfl K) | (rw [if_neg (by omega), if_neg (by omega), if_pos (by omega), if_pos (by omega)] at K; exact ma_iret dX1_placeOf_38 rfl K) | (rw [if_neg (by omega), if_neg (by omega), if_pos (by omega), if_neg (by omega)] at K; exact ma_iret dX1_placeOf_62 rfl K) | (rw [if_neg (by omega), if_neg (by omega), if_neg (by omega), if_pos (by omega)] at K; exact ma_iret dX1_placeOf_73 rfl K) | (rw [if_neg (by omega), if_neg (by omega), if_neg (by omega), if_neg (by omega), if_pos (by omega)] at K; exact ma_iret dX1_placeOf_91 rfl K) | (rw [if_neg (by omega), if_neg (by omega), if_neg (by omega), if_neg (by omega), if_neg (by omega)] at K; exact ma_iret dX1_placeOf_91 rfl K)
    · -- 15
      refine ma_sipush dX1_placeOf_15 ?_
      refine ma_iload_n dX1_placeOf_18 rfl ?_
      refine ma_iadd dX1_placeOf_19 ?_
      first | (rw [if_pos (by omega)] at K; exact ma_iret dX1_placeOf_9 rfl K) | (rw [if_neg (by omega), if_pos (by omega)] at K; exact ma_iret dX1_placeOf_20 rfl K) | (rw [if_neg (by omega), if_neg (by omega), if_pos (by omega), if_pos (by omega)] at K; exact ma_iret dX1_placeOf_38 rfl K) | (rw [if_neg (by omega), if_neg (by omega), if_pos (by omega), if_neg (by omega)] at K; exact ma_iret dX1_placeOf_62 rfl K) | (rw [if_neg (by omega), if_neg (by omega), if_neg (by omega), if_pos (by omega)] at K; exact ma_iret dX1_placeOf_73 rfl K) | (rw [if_neg (by omega), if_neg (by omega), if_neg (by omega), if_neg (by omega), if_pos (by omega)] at K; exact ma_iret dX1_placeOf_91 rfl K) | (rw [if_neg (by omega), if_neg (by omega), if_neg (by omega), if_neg (by omega), if_neg (by omega)] at K; exact ma_iret dX1_placeOf_91 rfl K)
  · -- k0
    refine ma_rif_ne 10 dX1_placeOf_5 rfl (by decide) (fun c5 => absurd c5 (by decide)) (fun c5 => ?_)
    refine ma_iconst dX1_placeOf_8 ?_
    first | (rw [if_pos (by omega)] at K; exact ma_iret dX1_placeOf_9 rfl K) | (rw [if_neg (by omega), if_pos (by omega)] at K; exact ma_iret dX1_placeOf_20 rfl K) | (rw [if_neg (by omega), if_neg (by omega), if_pos (by omega), if_pos (by omega)] at K; exact ma_iret dX1_placeOf_38 rfl K) | (rw [if_neg (by omega), if_neg (by omega), if_pos (by omega), if_neg (by omega)] at K; exact ma_iret dX1_placeOf_62 rfl K) | (rw [if_neg (by omega), if_neg (by omega), if_neg (by omega), if_pos (by omega)] at K; exact ma_iret dX1_placeOf_73 rfl K) | (rw [if_neg (by omega), if_neg (by omega), if_neg (by omega), if_neg (by omega), if_pos (by omega)] at K; exact ma_iret dX1_placeOf_91 rfl K) | (rw [if_neg (by omega), if_neg (by omega), if_neg (by omega), if_neg (by omega), if_neg (by omega)] at K; exact ma_iret dX1_placeOf_91 rfl K)
def R2 (t : Int) (G : Int → Int) (k : Int) : Int := if t ≤ k / 4 then -1 else if G k < 0 ∨ G k / 32 = k / 4 then -2 else if 8 < t + 1 then -3 else 0
def R1 (t x : Int) : Int := if t ≤ x then -1 else if 8 < t + 3 then -3 else 0
/-- the three tets at an edge are three -/
def T3 (G : Int → Int) (k : Int) : Prop := ∀ x y, 0 ≤ x → x < 4 → 0 ≤ y → y < 4 → x ≠ k / 4 % 4 → x ≠ k % 4 → y ≠ k / 4 % 4 → y ≠ k % 4 → x ≠ y → k / 16 ≠ G (4 * (k / 16) + x) / 32 ∧ G (4 * (k / 16) + x) / 32 ≠ G (4 * (k / 16) + y) / 32
def C3 (t : Int) (G E : Int → Int) (k : Int) : Prop := dA E (16 * t) (eg E k) = 3 ∧ fA E G (16 * t) 0 (eg E k) = 0 ∧ E (eg E k) ≠ E (tr (eg E k)) ∧ T3 G k
theorem vg_in {t : Int} {G : Int → Int} (hG : VG t G) {k : Int} (k0 : 0 ≤ k) (k1 : k < 32) : -1 ≤ G k ∧ G k < 256 ∧ (G k = -1 ∨ 0 ≤ G k ∧ G k < 256 ∧ G k % 32 < 24) := by
  have := hG.1
  rcases Int.lt_or_le k (4 * t) with z | z
  · rcases hG.2.1 k k0 z with y | y <;> omega
  · have := hG.2.2 k z k1
    omega
theorem xA_ok {t : Int} {E : Int → Int} {x : Int} (h : oE t x) : xA E (16 * t) x = eg E x := by
  have h2 := tr_o h
  unfold oE at h h2
  unfold xA
  rw [if_pos (by omega)]
theorem eg_in {t : Int} {G E P : Int → Int} (hB : BP t G E P) (hG : VG t G) {x : Int} (h : oE t x) : 0 ≤ eg E x ∧ eg E x < 128 ∧ oE t (eg E x) ∧ eg E x ≤ x := by
  have a := rp_ok (nb_E hG) hB.1 h
  have b := rp_ok (nb_E hG) hB.1 (tr_o h)
  have c := hB.1.1 x h
  have ht := hG.1
  unfold eg
  split
  · exact ⟨b.1, by have := b.2.1; omega, b, by omega⟩
  · exact ⟨a.1, by have := a.2.1; omega, a, c.2.1⟩
theorem c_X1_refusalOfTwo {h : ma_H} {b g nx d : Nat} {t k : Int} {G : Int → Int} {Q : Option ma_V → ma_H → Nat → Prop} (hb : h b = co 8 [vi t, vr g]) (hg : h g = ci 32 G) (hG : VG t G) (hk : 0 ≤ k ∧ k < 32) (K : Q (some (vi (R2 t G k))) h nx) : ma_Ct mX1_refusalOfTwo (d + 1) 0 0 [vr 54, vr b, vi k] h nx Q := by
  have ht := hG.1
  have hv := vg_in hG hk.1 hk.2
  unfold R2 at K
  refine ma_Ct.of (by decide +kernel) (Nat.le_of_ble_eq_true rfl) ?_
  refine ma_aload_n dX1_refusalOfTwo_0 rfl ?_
  refine ma_iload_n dX1_refusalOfTwo_1 rfl ?_
  refine ma_iconst dX1_refusalOfTwo_2 ?_
  refine ma_kshr 4 dX1_refusalOfTwo_3 (by decide) (by constructor <;> omega) ?_
  refine ma_cV [_] dX1_refusalOfTwo_4 wX8_hasTet lX1_58 iX8_hasTet sX8_hasTet rfl (by first | assumption | exact ma_up_s _ _ _ | (rw [ma_up_n (by omega)]; first | assumption | exact ma_up_s _ _ _ | (rw [ma_up_n (by omega)]; first | assumption | exact ma_up_s _ _ _))) (Nat.le_of_ble_eq_true rfl) ?_
  refine c_X8_hasTet hb (by omega) (by unfold rg; omega) (fun hq => ?_) (fun hq => ?_)
  · -- k1
    refine ma_rif_ne 12 dX1_refusalOfTwo_7 rfl (by decide) (fun c7 => ?_) (fun c7 => absurd c7 (by decide))
    refine ma_aload_n dX1_refusalOfTwo_12 rfl ?_
    refine ma_getf dX1_refusalOfTwo_13 fX1_92 (by first | assumption | exact ma_up_s _ _ _ | (rw [ma_up_n (by omega)]; first | assumption | exact ma_up_s _ _ _ | (rw [ma_up_n (by omega)]; first | assumption | exact ma_up_s _ _ _))) (by rfl) ?_
    refine ma_iload_n dX1_refusalOfTwo_16 rfl ?_
    refine ma_iald dX1_refusalOfTwo_17 (by first | assumption | exact ma_up_s _ _ _ | (rw [ma_up_n (by omega)]; first | assumption | exact ma_up_s _ _ _ | (rw [ma_up_n (by omega)]; first | assumption | exact ma_up_s _ _ _))) (by omega) (by omega) (by omega) ?_
    refine ma_istore_nN dX1_refusalOfTwo_18 (by decide) rfl ?_
    refine ma_iload_n dX1_refusalOfTwo_19 rfl ?_
    refine ma_rif_lt 32 dX1_refusalOfTwo_20 rfl (by constructor <;> omega) (fun c20 => ?_) (fun c20 => ?_)
    · -- 32
      refine ma_bipush dX1_refusalOfTwo_32 ?_
      first | (rw [if_pos (by omega)] at K; exact ma_iret dX1_refusalOfTwo_11 rfl K) | (rw [if_neg (by omega), if_pos (by omega)] at K; exact ma_iret dX1_refusalOfTwo_34 rfl K) | (rw [if_neg (by omega), if_neg (by omega), if_pos (by omega)] at K; exact ma_iret dX1_refusalOfTwo_52 rfl K) | (rw [if_neg (by omega), if_neg (by omega), if_neg (by omega)] at K; exact ma_iret dX1_refusalOfTwo_52 rfl K)
    · -- 23
      refine ma_iload_n dX1_refusalOfTwo_23 rfl ?_
      refine ma_iconst dX1_refusalOfTwo_24 ?_
      refine ma_kshr 32 dX1_refusalOfTwo_25 (by decide) (by constructor <;> omega) ?_
      refine ma_iload_n dX1_refusalOfTwo_26 rfl ?_
      refine ma_iconst dX1_refusalOfTwo_27 ?_
      refine ma_kshr 4 dX1_refusalOfTwo_28 (by decide) (by constructor <;> omega) ?_
      refine ma_rcmp_ne 35 dX1_refusalOfTwo_29 rfl (by constructor <;> omega) (by constructor <;> omega) (fun c29 => ?_) (fun c29 => ?_)
      · -- 35
        refine ma_aload_n dX1_refusalOfTwo_35 rfl ?_
        refine ma_getf dX1_refusalOfTwo_36 fX1_54 (by first | assumption | exact ma_up_s _ _ _ | (rw [ma_up_n (by omega)]; first | assumption | exact ma_up_s _ _ _ | (rw [ma_up_n (by omega)]; first | assumption | exact ma_up_s _ _ _))) (by rfl) ?_
        refine ma_iconst dX1_refusalOfTwo_39 ?_
        refine ma_iadd dX1_refusalOfTwo_40 ?_
        refine ma_bipush dX1_refusalOfTwo_41 ?_
        refine ma_rcmp_le 51 dX1_refusalOfTwo_43 rfl (by constructor <;> omega) (by constructor <;> omega) (fun c43 => ?_) (fun c43 => ?_)
        · -- 51
          refine ma_iconst dX1_refusalOfTwo_51 ?_
          first | (rw [if_pos (by omega)] at K; exact ma_iret dX1_refusalOfTwo_11 rfl K) | (rw [if_neg (by omega), if_pos (by omega)] at K; exact ma_iret dX1_refusalOfTwo_34 rfl K) | (rw [if_neg (by omega), if_neg (by omega), if_pos (by omega)] at K; exact ma_iret dX1_refusalOfTwo_52 rfl K) | (rw [if_neg (by omega), if_neg (by omega), if_neg (by omega)] at K; exact ma_iret dX1_refusalOfTwo_52 rfl K)
        · -- 46
          refine ma_bipush dX1_refusalOfTwo_46 ?_
          refine ma_goto 52 dX1_refusalOfTwo_48 rfl ?_
          first | (rw [if_pos (by omega)] at K; exact ma_iret dX1_refusalOfTwo_11 rfl K) | (rw [if_neg (by omega), if_pos (by omega)] at K; exact ma_iret dX1_refusalOfTwo_34 rfl K) | (rw [if_neg (by omega), if_neg (by omega), if_pos (by omega)] at K; exact ma_iret dX1_refusalOfTwo_52 rfl K) | (rw [if_neg (by omega), if_neg (by omega), if_neg (by omega)] at K; exact ma_iret dX1_refusalOfTwo_52 rfl K)
      · -- 32
        refine ma_bipush dX1_refusalOfTwo_32 ?_
        first | (rw [if_pos (by omega)] at K; exact ma_iret dX1_refusalOfTwo_11 rfl K) | (rw [if_neg (by omega), if_pos (by omega)] at K; exact ma_iret dX1_refusalOfTwo_34 rfl K) | (rw [if_neg (by omega), if_neg (by omega), if_pos (by omega)] at K; exact ma_iret dX1_refusalOfTwo_52 rfl K) | (rw [if_neg (by omega), if_neg (by omega), if_neg (by omega)] at K; exact ma_iret dX1_refusalOfTwo_52 rfl K)
  · -- k0
    refine ma_rif_ne 12 dX1_refusalOfTwo_7 rfl (by decide) (fun c7 => absurd c7 (by decide)) (fun c7 => ?_)
    refine ma_iconst dX1_refusalOfTwo_10 ?_
    first | (rw [if_pos (by omega)] at K; exact ma_iret dX1_refusalOfTwo_11 rfl K) | (rw [if_neg (by omega), if_pos (by omega)] at K; exact ma_iret dX1_refusalOfTwo_34 rfl K) | (rw [if_neg (by omega), if_neg (by omega), if_pos (by omega)] at K; exact ma_iret dX1_refusalOfTwo_52 rfl K) | (rw [if_neg (by omega), if_neg (by omega), if_neg (by omega)] at K; exact ma_iret dX1_refusalOfTwo_52 rfl K)
def S3 (G : Int → Int) (k f i : Int) : Prop := i = k / 16 ∨ ∃ x, 0 ≤ x ∧ x < f ∧ x ≠ k / 4 % 4 ∧ x ≠ k % 4 ∧ G (4 * (k / 16) + x) / 32 = i
theorem two_of {u v : Int} (u0 : 0 ≤ u) (u1 : u < 4) (v0 : 0 ≤ v) (v1 : v < 4) (h : u ≠ v) : ∃ x y, 0 ≤ x ∧ x < 4 ∧ 0 ≤ y ∧ y < 4 ∧ x ≠ u ∧ x ≠ v ∧ y ≠ u ∧ y ≠ v ∧ x < y ∧ ∀ z, 0 ≤ z → z < 4 → z ≠ u → z ≠ v → z = x ∨ z = y := by
  have hu : u = 0 ∨ u = 1 ∨ u = 2 ∨ u = 3 := by omega
  have hv : v = 0 ∨ v = 1 ∨ v = 2 ∨ v = 3 := by omega
  rcases hu with e | e | e | e <;> rcases hv with d | d | d | d <;> subst e <;> subst d
  all_goals first
    | exact absurd rfl h
    | exact ⟨2, 3, by omega, by omega, by omega, by omega, by omega, by omega, by omega, by omega, by omega, fun z a b c d => by omega⟩
    | exact ⟨1, 3, by omega, by omega, by omega, by omega, by omega, by omega, by omega, by omega, by omega, fun z a b c d => by omega⟩
    | exact ⟨1, 2, by omega, by omega, by omega, by omega, by omega, by omega, by omega, by omega, by omega, fun z a b c d => by omega⟩
    | exact ⟨0, 3, by omega, by omega, by omega, by omega, by omega, by omega, by omega, by omega, by omega, fun z a b c d => by omega⟩
    | exact ⟨0, 2, by omega, by omega, by omega, by omega, by omega, by omega, by omega, by omega, by omega, fun z a b c d => by omega⟩
    | exact ⟨0, 1, by omega, by omega, by omega, by omega, by omega, by omega, by omega, by omega, by omega, fun z a b c d => by omega⟩
theorem t3_pc {t : Int} {G : Int → Int} {k m : Int} (hG : VG t G) (hk : oE t k) (hf : ∀ x, 0 ≤ x → x < 4 → x ≠ k / 4 % 4 → x ≠ k % 4 → 0 ≤ G (4 * (k / 16) + x)) (h : MK m (S3 G k 4)) : pcn m = 3 ↔ T3 G k := by
  have ht := hG.1
  unfold oE at hk
  obtain ⟨x, y, x0, x1, y0, y1, xu, xv, yu, yv, xy, hz⟩ := two_of (show 0 ≤ k / 4 % 4 by omega) (by omega) (show 0 ≤ k % 4 by omega) (by omega) hk.2.2
  have gx := hf x x0 x1 xu xv
  have gy := hf y y0 y1 yu yv
  have bx : 0 ≤ G (4 * (k / 16) + x) / 32 ∧ G (4 * (k / 16) + x) / 32 < 8 := by
    have := vg_in hG (k := 4 * (k / 16) + x) (by omega) (by omega)
    omega
  have by' : 0 ≤ G (4 * (k / 16) + y) / 32 ∧ G (4 * (k / 16) + y) / 32 < 8 := by
    have := vg_in hG (k := 4 * (k / 16) + y) (by omega) (by omega)
    omega
  have e : m = bi_or (bi_or (bi_shl 1 (k / 16)) (bi_shl 1 (G (4 * (k / 16) + x) / 32))) (bi_shl 1 (G (4 * (k / 16) + y) / 32)) := by
    refine (mk_eq h (mk_or (mk_or (mk_1 (by omega) (by omega)) bx.1 bx.2) by'.1 by'.2)).mpr (fun i i0 i1 => ?_)
    constructor
    · rintro (a | ⟨z, z0, z1, z2, z3, z4⟩)
      · exact Or.inl (Or.inl a)
      · rcases hz z z0 z1 z2 z3 with w | w
        · rw [w] at z4; exact Or.inl (Or.inr z4.symm)
        · rw [w] at z4; exact Or.inr z4.symm
    · rintro ((a | a) | a)
      · exact Or.inl a
      · exact Or.inr ⟨x, x0, x1, xu, xv, a.symm⟩
      · exact Or.inr ⟨y, y0, y1, yu, yv, a.symm⟩
  have p := pc_3 (k / 16).toNat (by omega) (G (4 * (k / 16) + x) / 32).toNat (by omega) (G (4 * (k / 16) + y) / 32).toNat (by omega)
  rw [Int.toNat_of_nonneg (by omega), Int.toNat_of_nonneg (by omega), Int.toNat_of_nonneg (by omega), ← e] at p
  rw [p]
  constructor
  · intro ⟨a, b, c⟩ x' y' _ _ _ _ p1 p2 p3 p4 p5
    rcases hz x' (by assumption) (by assumption) p1 p2 with w | w <;> rcases hz y' (by assumption) (by assumption) p3 p4 with w' | w' <;> subst w <;> subst w'
    · exact absurd rfl p5
    · omega
    · omega
    · exact absurd rfl p5
  · intro hT
    have a := hT x y x0 x1 y0 y1 xu xv yu yv (by omega)
    have b := hT y x y0 y1 x0 x1 yu yv xu xv (by omega)
    omega
/-- an edge that is not free: the faces at it are glued -/
theorem fr_0 {t : Int} {G E P : Int → Int} (hB : BP t G E P) (hG : VG t G) {k : Int} (hk : oE t k) (h : fA E G (16 * t) 0 (eg E k) = 0) (x : Int) (x0 : 0 ≤ x) (x1 : x < 4) (xu : x ≠ k / 4 % 4) (xv : x ≠ k % 4) : 0 ≤ G (4 * (k / 16) + x) := by
  rcases Int.lt_or_le (G (4 * (k / 16) + x)) 0 with z | z
  · exfalso
    have hp : fP E G (16 * t) 0 (eg E k) := by
      have h2 := tr_o hk
      have hp := tr_p k
      rcases Int.lt_or_le (k / 4 % 4) (k % 4) with y | y
      · exact ⟨k, x, hk.1, x0, x1, Or.inl hk.2.1, y, rfl, xu, xv, z⟩
      · refine ⟨tr k, x, h2.1, x0, x1, Or.inl h2.2.1, ?_, eg_tr E k, ?_, ?_, ?_⟩
        · rw [hp.2.1, hp.2.2]; have := hk.2.2; omega
        · rw [hp.2.1]; exact xv
        · rw [hp.2.2]; exact xu
        · rw [hp.1]; exact z
    unfold fA at h
    rw [if_pos hp] at h
    omega
  · exact z
theorem s3_n {G : Int → Int} {k f i : Int} (h : f = k / 4 % 4 ∨ f = k % 4) : S3 G k f i ↔ S3 G k (f + 1) i := by
  constructor
  · rintro (a | ⟨x, x0, x1, x2⟩)
    · exact Or.inl a
    · exact Or.inr ⟨x, x0, by omega, x2⟩
  · rintro (a | ⟨x, x0, x1, x2, x3, x4⟩)
    · exact Or.inl a
    · exact Or.inr ⟨x, x0, by omega, x2, x3, x4⟩
theorem s3_s {G : Int → Int} {k f i : Int} (f0 : 0 ≤ f) (h : f ≠ k / 4 % 4) (h2 : f ≠ k % 4) : (S3 G k f i ∨ i = G (4 * (k / 16) + f) / 32) ↔ S3 G k (f + 1) i := by
  constructor
  · rintro ((a | ⟨x, x0, x1, x2⟩) | a)
    · exact Or.inl a
    · exact Or.inr ⟨x, x0, by omega, x2⟩
    · exact Or.inr ⟨f, f0, by omega, h, h2, a.symm⟩
  · rintro (a | ⟨x, x0, x1, x2, x3, x4⟩)
    · exact Or.inl (Or.inl a)
    · rcases Int.lt_or_eq_of_le (show x ≤ f by omega) with z | z
      · exact Or.inl (Or.inr ⟨x, x0, z, x2, x3, x4⟩)
      · rw [z] at x4
        exact Or.inr x4.symm
set_option maxHeartbeats 2000000 in
theorem l_X1_three_92 {h : ma_H} {b g nx d : Nat} {t k : Int} {G E P q : Int → Int} {Q : Option ma_V → ma_H → Nat → Prop} (hb : h b = co 8 [vi t, vr g]) (hg : h g = ci 32 G) (nb : b < 44 ∨ 53 < b) (ng : g < 44 ∨ 53 < g) (hG : VG t G) (hm : h 54 = co 1 [vr 44, vr 39, vr 55, vr 57, vr 58]) {e : Int} (hk : oE t k) (hF : ∀ x, 0 ≤ x → x < 4 → x ≠ k / 4 % 4 → x ≠ k % 4 → 0 ≤ G (4 * (k / 16) + x)) (K2 : ∀ m, MK m (S3 G k 4) → pcn m ≠ 3 → Q (some (vi (-2))) (br h t G E P q) nx) (K0 : ∀ m, MK m (S3 G k 4) → pcn m = 3 → Q (some (vi 0)) (br h t G E P q) nx) :
    ∀ (n : Nat) (f m : Int), 0 ≤ f → f ≤ 4 → 4 - f < n → MK m (S3 G k f) → ma_J none mX1_refusalOfThree (d + 2) 0 0 92 [some (vr 54), some (vr b), some (vi k), some (vi (k / 4 % 4)), some (vi (k % 4)), some (vi e), some (vi m), some (vi f)] [] (br h t G E P q) nx Q := by
  have ht := hG.1
  unfold oE at hk
  intro n
  induction n with
  | zero => intro f m h0 h1 h2; omega
  | succ n ih =>
    intro f m h0 h1 h2 hM
    have hM1 := hM.1
    have hM2 := hM.2.1
    refine ma_iload dX1_refusalOfThree_92 rfl ?_
    refine ma_iconst dX1_refusalOfThree_94 ?_
    refine ma_rcmp_ge 139 dX1_refusalOfThree_95 rfl (by constructor <;> omega) (by constructor <;> omega) (fun c95 => ?_) (fun c95 => ?_)
    · -- 139
      refine ma_iload dX1_refusalOfThree_139 rfl ?_
      refine ma_cS [_] dX1_refusalOfThree_141 wJ6_bitCount_0f7a4 lX1_108 tJ6_bitCount_0f7a4 (Nat.le_of_ble_eq_true rfl) ?_
      refine c_J6_bitCount ⟨hM.1, hM.2.1⟩ ?_
      have hp : 0 ≤ pcn m ∧ pcn m ≤ 8 := by unfold pcn; omega
      refine ma_iconst dX1_refusalOfThree_144 ?_
      refine ma_rcmp_ne 152 dX1_refusalOfThree_145 rfl (by constructor <;> omega) (by constructor <;> omega) (fun c145 => ?_) (fun c145 => ?_)
      · -- 152
        refine ma_bipush dX1_refusalOfThree_152 ?_
        first | exact ma_iret dX1_refusalOfThree_154 rfl (K0 m (mk_iff hM (fun i i0 i1 => by rw [show f = 4 by omega])) (by omega)) | exact ma_iret dX1_refusalOfThree_154 rfl (K2 m (mk_iff hM (fun i i0 i1 => by rw [show f = 4 by omega])) (by omega))
      · -- 148
        refine ma_iconst dX1_refusalOfThree_148 ?_
        refine ma_goto 154 dX1_refusalOfThree_149 rfl ?_
        first | exact ma_iret dX1_refusalOfThree_154 rfl (K0 m (mk_iff hM (fun i i0 i1 => by rw [show f = 4 by omega])) (by omega)) | exact ma_iret dX1_refusalOfThree_154 rfl (K2 m (mk_iff hM (fun i i0 i1 => by rw [show f = 4 by omega])) (by omega))
    · -- 98
      refine ma_iload dX1_refusalOfThree_98 rfl ?_
      refine ma_iload_n dX1_refusalOfThree_100 rfl ?_
      refine ma_rcmp_eq 133 dX1_refusalOfThree_101 rfl (by constructor <;> omega) (by constructor <;> omega) (fun c101 => ?_) (fun c101 => ?_)
      · -- 133
        refine ma_iincN dX1_refusalOfThree_133 rfl (by decide) rfl ?_
        refine ma_goto 92 dX1_refusalOfThree_136 rfl ?_
        first | exact ih (f + 1) m (by omega) (by omega) (by omega) (mk_iff hM (fun i i0 i1 => s3_n (by omega))) | exact ih (f + 1) _ (by omega) (by omega) (by omega) (mk_iff (mk_or hM (by omega) (by omega)) (fun i i0 i1 => s3_s h0 (by omega) (by omega)))
      · -- 104
        refine ma_iload dX1_refusalOfThree_104 rfl ?_
        refine ma_iload dX1_refusalOfThree_106 rfl ?_
        refine ma_rcmp_eq 133 dX1_refusalOfThree_108 rfl (by constructor <;> omega) (by constructor <;> omega) (fun c108 => ?_) (fun c108 => ?_)
        · -- 133
          refine ma_iincN dX1_refusalOfThree_133 rfl (by decide) rfl ?_
          refine ma_goto 92 dX1_refusalOfThree_136 rfl ?_
          first | exact ih (f + 1) m (by omega) (by omega) (by omega) (mk_iff hM (fun i i0 i1 => s3_n (by omega))) | exact ih (f + 1) _ (by omega) (by omega) (by omega) (mk_iff (mk_or hM (by omega) (by omega)) (fun i i0 i1 => s3_s h0 (by omega) (by omega)))
        · -- 111
          refine ma_iload dX1_refusalOfThree_111 rfl ?_
          refine ma_iconst dX1_refusalOfThree_113 ?_
          refine ma_aload_n dX1_refusalOfThree_114 rfl ?_
          refine ma_getf dX1_refusalOfThree_115 fX1_92 (by first | exact bh_45 | exact bh_46 | exact bh_47 | exact bh_48 | exact bh_49 | exact bh_50 | exact bh_51 | exact bh_52 | exact bh_53 | exact bh_44 | exact (bh_n (by first | assumption | omega)).trans (by assumption)) (by rfl) ?_
          refine ma_iconst dX1_refusalOfThree_118 ?_
          refine ma_iload_n dX1_refusalOfThree_119 rfl ?_
          refine ma_iconst dX1_refusalOfThree_120 ?_
          refine ma_kshr 16 dX1_refusalOfThree_121 (by decide) (by constructor <;> omega) ?_
          refine ma_imul dX1_refusalOfThree_122 ?_
          refine ma_iload dX1_refusalOfThree_123 rfl ?_
          refine ma_iadd dX1_refusalOfThree_125 ?_
          refine ma_iald dX1_refusalOfThree_126 (by first | exact bh_45 | exact bh_46 | exact bh_47 | exact bh_48 | exact bh_49 | exact bh_50 | exact bh_51 | exact bh_52 | exact bh_53 | exact bh_44 | exact (bh_n (by first | assumption | omega)).trans (by assumption)) (by omega) (by omega) (by omega) ?_
          have hgx := vg_in hG (k := 4 * (k / 16) + f) (by omega) (by omega)
          have hgy := hF f h0 (by omega) (by omega) (by omega)
          refine ma_iconst dX1_refusalOfThree_127 ?_
          refine ma_kshr 32 dX1_refusalOfThree_128 (by decide) (by constructor <;> omega) ?_
          refine ma_ishl dX1_refusalOfThree_129 ?_
          refine ma_ior dX1_refusalOfThree_130 ?_
          refine ma_istoreN dX1_refusalOfThree_131 (by decide) rfl ?_
          refine ma_iincN dX1_refusalOfThree_133 rfl (by decide) rfl ?_
          refine ma_goto 92 dX1_refusalOfThree_136 rfl ?_
          first | exact ih (f + 1) m (by omega) (by omega) (by omega) (mk_iff hM (fun i i0 i1 => s3_n (by omega))) | exact ih (f + 1) _ (by omega) (by omega) (by omega) (mk_iff (mk_or hM (by omega) (by omega)) (fun i i0 i1 => s3_s h0 (by omega) (by omega)))
set_option maxHeartbeats 2000000 in
theorem c_X1_refusalOfThree {h : ma_H} {b g nx d : Nat} {t k : Int} {G E P q : Int → Int} {Q : Option ma_V → ma_H → Nat → Prop} (hb : h b = co 8 [vi t, vr g]) (hg : h g = ci 32 G) (nb : b < 44 ∨ 53 < b) (ng : g < 44 ∨ 53 < g) (hG : VG t G) (hm : h 54 = co 1 [vr 44, vr 39, vr 55, vr 57, vr 58]) (hB : BP t G E P) (hk : 0 ≤ k ∧ k < 128) (K1 : ¬ (k / 16 < t ∧ k / 4 % 4 < k % 4) → Q (some (vi (-1))) (br h t G E P q) nx) (K2 : k / 16 < t → k / 4 % 4 < k % 4 → ¬ C3 t G E k → Q (some (vi (-2))) (br h t G E P q) nx) (K0 : k / 16 < t → k / 4 % 4 < k % 4 → C3 t G E k → Q (some (vi 0)) (br h t G E P q) nx) : ma_Ct mX1_refusalOfThree (d + 2) 0 0 [vr 54, vr b, vi k] (br h t G E P q) nx Q := by
  have ht := hG.1
  refine ma_Ct.of (by decide +kernel) (Nat.le_of_ble_eq_true rfl) ?_
  refine ma_iload_n dX1_refusalOfThree_0 rfl ?_
  refine ma_iconst dX1_refusalOfThree_1 ?_
  refine ma_kshr 4 dX1_refusalOfThree_2 (by decide) (by constructor <;> omega) ?_
  refine ma_iconst dX1_refusalOfThree_3 ?_
  refine ma_kand 2 4 dX1_refusalOfThree_4 (by decide) (by decide +kernel) (by decide) ?_
  refine ma_istore_nN dX1_refusalOfThree_5 (by decide) rfl ?_
  refine ma_iload_n dX1_refusalOfThree_6 rfl ?_
  refine ma_iconst dX1_refusalOfThree_7 ?_
  refine ma_kand 2 4 dX1_refusalOfThree_8 (by decide) (by decide +kernel) (by decide) ?_
  refine ma_istoreN dX1_refusalOfThree_9 (by decide) rfl ?_
  refine ma_aload_n dX1_refusalOfThree_11 rfl ?_
  refine ma_iload_n dX1_refusalOfThree_12 rfl ?_
  refine ma_iconst dX1_refusalOfThree_13 ?_
  refine ma_kshr 16 dX1_refusalOfThree_14 (by decide) (by constructor <;> omega) ?_
  refine ma_cV [_] dX1_refusalOfThree_15 wX8_hasTet lX1_58 iX8_hasTet sX8_hasTet rfl (by first | exact bh_45 | exact bh_46 | exact bh_47 | exact bh_48 | exact bh_49 | exact bh_50 | exact bh_51 | exact bh_52 | exact bh_53 | exact bh_44 | exact (bh_n (by first | assumption | omega)).trans (by assumption)) (Nat.le_of_ble_eq_true rfl) ?_
  refine c_X8_hasTet ((bh_n nb).trans hb) (by omega) (by unfold rg; omega) (fun hq => ?_) (fun hq => ?_)
  · -- k1
    refine ma_rif_eq 27 dX1_refusalOfThree_18 rfl (by decide) (fun c18 => absurd c18 (by decide)) (fun c18 => ?_)
    refine ma_iload_n dX1_refusalOfThree_21 rfl ?_
    refine ma_iload dX1_refusalOfThree_22 rfl ?_
    refine ma_rcmp_lt 29 dX1_refusalOfThree_24 rfl (by constructor <;> omega) (by constructor <;> omega) (fun c24 => ?_) (fun c24 => ?_)
    · -- 29
      have ho : oE t k := ⟨hk.1, by omega, by omega⟩
      have he := eg_in hB hG ho
      refine ma_aload_n dX1_refusalOfThree_29 rfl ?_
      refine ma_getf dX1_refusalOfThree_30 fX1_25 (by first | exact bh_45 | exact bh_46 | exact bh_47 | exact bh_48 | exact bh_49 | exact bh_50 | exact bh_51 | exact bh_52 | exact bh_53 | exact bh_44 | exact (bh_n (by first | assumption | omega)).trans (by assumption)) (by rfl) ?_
      refine ma_getf dX1_refusalOfThree_33 fX1_95 (by first | exact bh_45 | exact bh_46 | exact bh_47 | exact bh_48 | exact bh_49 | exact bh_50 | exact bh_51 | exact bh_52 | exact bh_53 | exact bh_44 | exact (bh_n (by first | assumption | omega)).trans (by assumption)) (by rfl) ?_
      refine ma_iload_n dX1_refusalOfThree_36 rfl ?_
      refine ma_iald dX1_refusalOfThree_37 (by first | exact bh_45 | exact bh_46 | exact bh_47 | exact bh_48 | exact bh_49 | exact bh_50 | exact bh_51 | exact bh_52 | exact bh_53 | exact bh_44 | exact (bh_n (by first | assumption | omega)).trans (by assumption)) (by omega) (by omega) (by omega) ?_
      rw [xA_ok ho]
      refine ma_istoreN dX1_refusalOfThree_38 (by decide) rfl ?_
      refine ma_aload_n dX1_refusalOfThree_40 rfl ?_
      refine ma_getf dX1_refusalOfThree_41 fX1_25 (by first | exact bh_45 | exact bh_46 | exact bh_47 | exact bh_48 | exact bh_49 | exact bh_50 | exact bh_51 | exact bh_52 | exact bh_53 | exact bh_44 | exact (bh_n (by first | assumption | omega)).trans (by assumption)) (by rfl) ?_
      refine ma_getf dX1_refusalOfThree_44 fX1_98 (by first | exact bh_45 | exact bh_46 | exact bh_47 | exact bh_48 | exact bh_49 | exact bh_50 | exact bh_51 | exact bh_52 | exact bh_53 | exact bh_44 | exact (bh_n (by first | assumption | omega)).trans (by assumption)) (by rfl) ?_
      refine ma_iload dX1_refusalOfThree_47 rfl ?_
      refine ma_iald dX1_refusalOfThree_49 (by first | exact bh_45 | exact bh_46 | exact bh_47 | exact bh_48 | exact bh_49 | exact bh_50 | exact bh_51 | exact bh_52 | exact bh_53 | exact bh_44 | exact (bh_n (by first | assumption | omega)).trans (by assumption)) (by omega) (by omega) (by omega) ?_
      have hd := ct_in (dP E (eg E k)) (16 * t).toNat
      have hd2 : 0 ≤ dA E (16 * t) (eg E k) ∧ dA E (16 * t) (eg E k) ≤ 128 := ⟨hd.1, by have := hd.2; unfold dA; omega⟩
      refine ma_iconst dX1_refusalOfThree_50 ?_
      refine ma_rcmp_ne 79 dX1_refusalOfThree_51 rfl (by constructor <;> omega) (by constructor <;> omega) (fun c51 => ?_) (fun c51 => ?_)
      · -- 79
        refine ma_bipush dX1_refusalOfThree_79 ?_
        first | exact ma_iret dX1_refusalOfThree_81 rfl (K2 (by omega) (by omega) (fun hc => c51 hc.1)) | exact ma_iret dX1_refusalOfThree_81 rfl (K2 (by omega) (by omega) (fun hc => c64 hc.2.1)) | exact ma_iret dX1_refusalOfThree_81 rfl (K2 (by omega) (by omega) (fun hc => hc.2.2.1 hr))
      · -- 54
        refine ma_aload_n dX1_refusalOfThree_54 rfl ?_
        refine ma_getf dX1_refusalOfThree_55 fX1_25 (by first | exact bh_45 | exact bh_46 | exact bh_47 | exact bh_48 | exact bh_49 | exact bh_50 | exact bh_51 | exact bh_52 | exact bh_53 | exact bh_44 | exact (bh_n (by first | assumption | omega)).trans (by assumption)) (by rfl) ?_
        refine ma_getf dX1_refusalOfThree_58 fX1_101 (by first | exact bh_45 | exact bh_46 | exact bh_47 | exact bh_48 | exact bh_49 | exact bh_50 | exact bh_51 | exact bh_52 | exact bh_53 | exact bh_44 | exact (bh_n (by first | assumption | omega)).trans (by assumption)) (by rfl) ?_
        refine ma_iload dX1_refusalOfThree_61 rfl ?_
        refine ma_zald dX1_refusalOfThree_63 (by first | exact bh_45 | exact bh_46 | exact bh_47 | exact bh_48 | exact bh_49 | exact bh_50 | exact bh_51 | exact bh_52 | exact bh_53 | exact bh_44 | exact (bh_n (by first | assumption | omega)).trans (by assumption)) (by omega) (by omega) (by omega) ?_
        have hf := fA_in E G (16 * t) 0 (eg E k)
        refine ma_rif_ne 79 dX1_refusalOfThree_64 rfl (by constructor <;> omega) (fun c64 => ?_) (fun c64 => ?_)
        · -- 79
          refine ma_bipush dX1_refusalOfThree_79 ?_
          first | exact ma_iret dX1_refusalOfThree_81 rfl (K2 (by omega) (by omega) (fun hc => c51 hc.1)) | exact ma_iret dX1_refusalOfThree_81 rfl (K2 (by omega) (by omega) (fun hc => c64 hc.2.1)) | exact ma_iret dX1_refusalOfThree_81 rfl (K2 (by omega) (by omega) (fun hc => hc.2.2.1 hr))
        · -- 67
          refine ma_aload_n dX1_refusalOfThree_67 rfl ?_
          refine ma_getf dX1_refusalOfThree_68 fX1_25 (by first | exact bh_45 | exact bh_46 | exact bh_47 | exact bh_48 | exact bh_49 | exact bh_50 | exact bh_51 | exact bh_52 | exact bh_53 | exact bh_44 | exact (bh_n (by first | assumption | omega)).trans (by assumption)) (by rfl) ?_
          refine ma_iload dX1_refusalOfThree_71 rfl ?_
          refine ma_cV [_] dX1_refusalOfThree_73 wX7_isReversed lX1_105 iX7_isReversed sX7_isReversed rfl (by first | exact bh_45 | exact bh_46 | exact bh_47 | exact bh_48 | exact bh_49 | exact bh_50 | exact bh_51 | exact bh_52 | exact bh_53 | exact bh_44 | exact (bh_n (by first | assumption | omega)).trans (by assumption)) (Nat.le_of_ble_eq_true rfl) ?_
          refine c_X7_isReversed (by constructor <;> omega) (bp_E hB) (fun hr => ?_) (fun hr => ?_)
          · -- k1
            refine ma_rif_eq 82 dX1_refusalOfThree_76 rfl (by decide) (fun c76 => absurd c76 (by decide)) (fun c76 => ?_)
            refine ma_bipush dX1_refusalOfThree_79 ?_
            first | exact ma_iret dX1_refusalOfThree_81 rfl (K2 (by omega) (by omega) (fun hc => c51 hc.1)) | exact ma_iret dX1_refusalOfThree_81 rfl (K2 (by omega) (by omega) (fun hc => c64 hc.2.1)) | exact ma_iret dX1_refusalOfThree_81 rfl (K2 (by omega) (by omega) (fun hc => hc.2.2.1 hr))
          · -- k0
            refine ma_rif_eq 82 dX1_refusalOfThree_76 rfl (by decide) (fun c76 => ?_) (fun c76 => absurd c76 (by decide))
            refine ma_iconst dX1_refusalOfThree_82 ?_
            refine ma_iload_n dX1_refusalOfThree_83 rfl ?_
            refine ma_iconst dX1_refusalOfThree_84 ?_
            refine ma_kshr 16 dX1_refusalOfThree_85 (by decide) (by constructor <;> omega) ?_
            refine ma_ishl dX1_refusalOfThree_86 ?_
            refine ma_istoreN dX1_refusalOfThree_87 (by decide) rfl ?_
            refine ma_iconst dX1_refusalOfThree_89 ?_
            refine ma_istoreN dX1_refusalOfThree_90 (by decide) rfl ?_
            have hF := fr_0 hB hG ho (by omega)
            exact l_X1_three_92 hb hg nb ng hG hm ho hF (fun m hM hp => K2 (by omega) (by omega) (fun hc => hp ((t3_pc hG ho hF hM).mpr hc.2.2.2))) (fun m hM hp => K0 (by omega) (by omega) ⟨by omega, by omega, hr, (t3_pc hG ho hF hM).mp hp⟩) 5 0 _ (by omega) (by omega) (by omega) (mk_iff (mk_1 (by omega) (by omega)) (fun i i0 i1 => ⟨fun z => Or.inl z, fun z => by
              rcases z with z | ⟨x, x0, x1, -⟩
              · exact z
              · omega⟩))
    · -- 27
      refine ma_iconst dX1_refusalOfThree_27 ?_
      exact ma_iret dX1_refusalOfThree_28 rfl (K1 (by omega))
  · -- k0
    refine ma_rif_eq 27 dX1_refusalOfThree_18 rfl (by decide) (fun c18 => ?_) (fun c18 => absurd c18 (by decide))
    refine ma_iconst dX1_refusalOfThree_27 ?_
    exact ma_iret dX1_refusalOfThree_28 rfl (K1 (by omega))
