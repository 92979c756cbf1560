theorem ushr_b (a : Int) : 0 ≤ bi_ushr a 16 ∧ bi_ushr a 16 ≤ 65535 := by
  unfold bi_ushr
  have e1 : ((Int32.ofInt 16).toUInt32 &&& Int32.toUInt32 31) = (16 : UInt32) := by decide +kernel
  rw [e1]
  generalize (Int32.ofInt a).toUInt32 = u
  have h : (u >>> (16 : UInt32)).toNat = u.toNat / 65536 := by
    rw [UInt32.toNat_shiftRight]
    show u.toNat >>> 16 = _
    rw [Nat.shiftRight_eq_div_pow]
  have hu : u.toNat < 4294967296 := u.toNat_lt
  have hx : (u >>> (16 : UInt32)).toBitVec.toNat = u.toNat / 65536 := h
  show 0 ≤ (u >>> (16 : UInt32)).toBitVec.toInt ∧ (u >>> (16 : UInt32)).toBitVec.toInt ≤ 65535
  rw [BitVec.toInt_eq_toNat_of_lt (by rw [hx]; omega), hx]
  omega
/-- the next state, a number drawn -/
def dnx (s : Int) : Int := s * 1103515245 + 12345
def dv (s n : Int) : Int := bi_ushr s 16 % n
theorem dv_in {s n : Int} (h : 0 < n) : 0 ≤ dv s n ∧ dv s n < n := ⟨Int.emod_nonneg _ (by omega), Int.emod_lt_of_pos _ h⟩
theorem c_X12_draw {h : ma_H} {nx d : Nat} {n : Int} {Q : Option ma_V → ma_H → Nat → Prop} {I : Nat → Int} (hM : h 73 = co 12 (mo I)) (hn : 0 < n ∧ n ≤ 1000) (K : Q (some (vi (dv (dnx (I 56)) n))) (ma_up h 73 (co 12 (mo (iu I 56 (dnx (I 56)))))) nx) : ma_Ct mX12_draw d 0 0 [vr 73, vi n] h nx Q := by
  have ub := ushr_b (dnx (I 56))
  refine ma_Ct.of (by decide +kernel) (Nat.le_of_ble_eq_true rfl) ?_
  refine ma_aload_n dX12_draw_0 rfl ?_
  refine ma_aload_n dX12_draw_1 rfl ?_
  refine ma_getf dX12_draw_2 fX12_491 (by first | exact ma_up_s _ _ _ | assumption) (by rfl) ?_
  refine ma_ldcw (n := 1103515245) dX12_draw_5 vX12_494 (by decide +kernel) ?_
  refine ma_imul dX12_draw_8 ?_
  refine ma_sipush dX12_draw_9 ?_
  refine ma_iadd dX12_draw_12 ?_
  refine ma_puti dX12_draw_13 fX12_491 (by first | exact ma_up_s _ _ _ | assumption) (Nat.le_of_ble_eq_true rfl) ?_
  rw [mo_56]
  refine ma_aload_n dX12_draw_16 rfl ?_
  refine ma_getf dX12_draw_17 fX12_491 (by first | exact ma_up_s _ _ _ | assumption) (by rfl) ?_
  rw [iu_s, show I 56 * 1103515245 + 12345 = dnx (I 56) from rfl]
  refine ma_bipush dX12_draw_20 ?_
  refine ma_iushr dX12_draw_22 ?_
  refine ma_iload_n dX12_draw_23 rfl ?_
  refine ma_kmod dX12_draw_24 (by constructor <;> omega) (by constructor <;> omega) ?_
  exact ma_iret dX12_draw_25 rfl K
set_option maxHeartbeats 2000000 in
theorem l_X12_reversedMany {h : ma_H} {nx d : Nat} {t n : Int} {G E P F R fi : Int → Int} {Q : Option ma_V → ma_H → Nat → Prop} {I : Nat → Int} (hM : h 73 = co 12 (mo I)) (h86 : h 86 = ci 128 F) (h88 : h 88 = ci 48 fi) (hG : VG t G) (hB : BQ t G E P F R) (hn : I 22 = n) (nb : n ≤ 48) (hF : FE E fi n (16 * t)) (K : Q (some (vi (ct (fun x => cP E x ∧ E x = E (tr x)) (16 * t).toNat))) h nx) :
    ∀ (m : Nat) (k : Int) (c : Int), (0 ≤ k) → (k ≤ n) → (n - k < m) → (c = ct (fun j => E (fi j) = E (tr (fi j))) k.toNat) → ma_J none mX12_reversedMany (d + 3) 0 0 4 [some (vr 73), some (vi c), some (vi k)] [] h nx Q := by
  have ht := hG.1
  have n0 : 0 ≤ n := by rw [hF.1]; exact (ct_in _ _).1
  intro m
  induction m with
  | zero => intro k c k0 k1 k2 hc; omega
  | succ m ih =>
    intro k c k0 k1 k2 hc
    refine ma_iload_n dX12_reversedMany_4 rfl ?_
    refine ma_aload_n dX12_reversedMany_5 rfl ?_
    refine ma_getf dX12_reversedMany_6 fX12_300 (by assumption) (by rfl) ?_
    rw [hn]
    refine ma_rcmp_ge 34 dX12_reversedMany_9 rfl (by constructor <;> omega) (by constructor <;> omega) (fun c9 => ?_) (fun c9 => ?_)
    · -- 34
      refine ma_iload_n dX12_reversedMany_34 rfl ?_
      have e4 : k = n := by omega
      rw [hc, e4]
      exact ma_iret dX12_reversedMany_35 rfl (by have e := fe_ct (A := fun x => E x = E (tr x)) (16 * t).toNat (fi := fi) (n := n) (by rw [Int.toNat_of_nonneg (by omega)]; exact hF); rw [e]; exact K)
    · -- 12
      refine ma_iload_n dX12_reversedMany_12 rfl ?_
      refine ma_aload_n dX12_reversedMany_13 rfl ?_
      refine ma_iload_n dX12_reversedMany_14 rfl ?_
      refine ma_cV [_] dX12_reversedMany_15 wX12_isReversedAt lX12_306 iX12_isReversedAt sX12_isReversedAt rfl (by assumption) (Nat.le_of_ble_eq_true rfl) ?_
      refine c_X12_isReversedAt hM h86 h88 hG hB ⟨k0, by omega⟩ (by have q := hF.2.1 k k0 (by omega); exact q) (fun hr => ?_) (fun hr => ?_)
      · -- k1
        refine ma_rif_eq 25 dX12_reversedMany_18 rfl (by decide) (fun c18 => absurd c18 (by decide)) (fun c18 => ?_)
        refine ma_iconst dX12_reversedMany_21 ?_
        refine ma_goto 26 dX12_reversedMany_22 rfl ?_
        refine ma_iadd dX12_reversedMany_26 ?_
        refine ma_istore_nN dX12_reversedMany_27 (by decide) rfl ?_
        refine ma_iincN dX12_reversedMany_28 rfl (by decide) rfl ?_
        refine ma_goto 4 dX12_reversedMany_31 rfl ?_
        exact ih (k + 1) _ (by omega) (by omega) (by omega) (by rw [ct_y (P := (fun j => E (fi j) = E (tr (fi j)))) k0 hr, hc])
      · -- k0
        refine ma_rif_eq 25 dX12_reversedMany_18 rfl (by decide) (fun c18 => ?_) (fun c18 => absurd c18 (by decide))
        refine ma_iconst dX12_reversedMany_25 ?_
        refine ma_iadd dX12_reversedMany_26 ?_
        refine ma_istore_nN dX12_reversedMany_27 (by decide) rfl ?_
        refine ma_iincN dX12_reversedMany_28 rfl (by decide) rfl ?_
        refine ma_goto 4 dX12_reversedMany_31 rfl ?_
        exact ih (k + 1) _ (by omega) (by omega) (by omega) (by rw [ct_n (P := (fun j => E (fi j) = E (tr (fi j)))) k0 hr, hc]; omega)
theorem c_X12_reversedMany {h : ma_H} {nx d : Nat} {t n : Int} {G E P F R fi : Int → Int} {Q : Option ma_V → ma_H → Nat → Prop} {I : Nat → Int} (hM : h 73 = co 12 (mo I)) (h86 : h 86 = ci 128 F) (h88 : h 88 = ci 48 fi) (hG : VG t G) (hB : BQ t G E P F R) (hn : I 22 = n) (nb : n ≤ 48) (hF : FE E fi n (16 * t)) (K : Q (some (vi (ct (fun x => cP E x ∧ E x = E (tr x)) (16 * t).toNat))) h nx) : ma_Ct mX12_reversedMany (d + 3) 0 0 [vr 73] h nx Q := by
  have n0 : 0 ≤ n := by rw [hF.1]; exact (ct_in _ _).1
  refine ma_Ct.of (by decide +kernel) (Nat.le_of_ble_eq_true rfl) ?_
  refine ma_iconst dX12_reversedMany_0 ?_
  refine ma_istore_nN dX12_reversedMany_1 (by decide) rfl ?_
  refine ma_iconst dX12_reversedMany_2 ?_
  refine ma_istore_nN dX12_reversedMany_3 (by decide) rfl ?_
  exact l_X12_reversedMany hM h86 h88 hG hB hn nb hF K 49 0 0 (by omega) (by omega) (by omega) rfl
theorem c_X12_isFirst {h : ma_H} {nx d : Nat} {t c : Int} {G E P F R : Int → Int} {Q : Option ma_V → ma_H → Nat → Prop} {I : Nat → Int} (hM : h 73 = co 12 (mo I)) (h87 : h 87 = ci 32 R) (hG : VG t G) (hB : BQ t G E P F R) (c0 : 0 ≤ c ∧ c < 4 * t) (K1 : P c = c → Q (some (vi 1)) h nx) (K0 : P c ≠ c → Q (some (vi 0)) h nx) : ma_Ct mX12_isFirst d 0 0 [vr 73, vi c] h nx Q := by
  have ht := hG.1
  have hr := bq_P hB c0.1 c0.2
  refine ma_Ct.of (by decide +kernel) (Nat.le_of_ble_eq_true rfl) ?_
  refine ma_aload_n dX12_isFirst_0 rfl ?_
  refine ma_getf dX12_isFirst_1 fX12_51 (by assumption) (by rfl) ?_
  refine ma_iload_n dX12_isFirst_4 rfl ?_
  refine ma_iald dX12_isFirst_5 (by assumption) (by omega) (by omega) (by omega) ?_
  rw [hr.1]
  refine ma_iload_n dX12_isFirst_6 rfl ?_
  refine ma_rcmp_ne 14 dX12_isFirst_7 rfl (by constructor <;> omega) (by constructor <;> omega) (fun c7 => ?_) (fun c7 => ?_)
  · -- 14
    refine ma_iconst dX12_isFirst_14 ?_
    exact ma_zret dX12_isFirst_15 rfl (Or.inl rfl) (K0 c7)
  · -- 10
    refine ma_iconst dX12_isFirst_10 ?_
    refine ma_goto 15 dX12_isFirst_11 rfl ?_
    exact ma_zret dX12_isFirst_15 rfl (Or.inr rfl) (K1 (by omega))
set_option maxHeartbeats 2000000 in
theorem l_X12_pointMany {h : ma_H} {a nx d : Nat} {t : Int} {G Aa E P F R : Int → Int} {Q : Option ma_V → ma_H → Nat → Prop} {I : Nat → Int} (hM : h 73 = co 12 (mo I)) (ha : h a = ci 33 Aa) (hG : VG t G) (hA : AG t G Aa) (h86 : h 86 = ci 128 F) (h87 : h 87 = ci 32 R) (hB : BQ t G E P F R) (K : Q (some (vi (ct (qP P) (4 * t).toNat))) h nx) :
    ∀ (m : Nat) (k : Int) (c : Int), (0 ≤ k) → (k ≤ 4 * t) → (4 * t - k < m) → (c = ct (qP P) k.toNat) → ma_J none mX12_pointMany (d + 1) 0 0 4 [some (vr 73), some (vr a), some (vi c), some (vi k)] [] h nx Q := by
  have ht := hG.1
  intro m
  induction m with
  | zero => intro k c k0 k1 k2 hc; omega
  | succ m ih =>
    intro k c k0 k1 k2 hc
    refine ma_iload_n dX12_pointMany_4 rfl ?_
    refine ma_iconst dX12_pointMany_5 ?_
    refine ma_aload_n dX12_pointMany_6 rfl ?_
    refine ma_iconst dX12_pointMany_7 ?_
    refine ma_iald dX12_pointMany_8 (by assumption) (by omega) (by omega) (by omega) ?_
    rw [hA.1]
    refine ma_imul dX12_pointMany_9 ?_
    refine ma_rcmp_ge 35 dX12_pointMany_10 rfl (by constructor <;> omega) (by constructor <;> omega) (fun c10 => ?_) (fun c10 => ?_)
    · -- 35
      refine ma_iload_n dX12_pointMany_35 rfl ?_
      have e4 : k = 4 * t := by omega
      rw [hc, e4]
      exact ma_iret dX12_pointMany_36 rfl K
    · -- 13
      refine ma_iload_n dX12_pointMany_13 rfl ?_
      refine ma_aload_n dX12_pointMany_14 rfl ?_
      refine ma_iload_n dX12_pointMany_15 rfl ?_
      refine ma_cV [_] dX12_pointMany_16 wX12_isFirst lX12_316 iX12_isFirst sX12_isFirst rfl (by assumption) (Nat.le_of_ble_eq_true rfl) ?_
      refine c_X12_isFirst hM h87 hG hB ⟨k0, by omega⟩ (fun hf => ?_) (fun hf => ?_)
      · -- k1
        refine ma_rif_eq 26 dX12_pointMany_19 rfl (by decide) (fun c19 => absurd c19 (by decide)) (fun c19 => ?_)
        refine ma_iconst dX12_pointMany_22 ?_
        refine ma_goto 27 dX12_pointMany_23 rfl ?_
        refine ma_iadd dX12_pointMany_27 ?_
        refine ma_istore_nN dX12_pointMany_28 (by decide) rfl ?_
        refine ma_iincN dX12_pointMany_29 rfl (by decide) rfl ?_
        refine ma_goto 4 dX12_pointMany_32 rfl ?_
        exact ih (k + 1) _ (by omega) (by omega) (by omega) (by rw [ct_y (P := (qP P)) k0 hf, hc])
      · -- k0
        refine ma_rif_eq 26 dX12_pointMany_19 rfl (by decide) (fun c19 => ?_) (fun c19 => absurd c19 (by decide))
        refine ma_iconst dX12_pointMany_26 ?_
        refine ma_iadd dX12_pointMany_27 ?_
        refine ma_istore_nN dX12_pointMany_28 (by decide) rfl ?_
        refine ma_iincN dX12_pointMany_29 rfl (by decide) rfl ?_
        refine ma_goto 4 dX12_pointMany_32 rfl ?_
        exact ih (k + 1) _ (by omega) (by omega) (by omega) (by rw [ct_n (P := (qP P)) k0 hf, hc]; omega)
theorem c_X12_pointMany {h : ma_H} {a nx d : Nat} {t : Int} {G Aa E P F R : Int → Int} {Q : Option ma_V → ma_H → Nat → Prop} {I : Nat → Int} (hM : h 73 = co 12 (mo I)) (ha : h a = ci 33 Aa) (hG : VG t G) (hA : AG t G Aa) (h86 : h 86 = ci 128 F) (h87 : h 87 = ci 32 R) (hB : BQ t G E P F R) (K : Q (some (vi (ct (qP P) (4 * t).toNat))) h nx) : ma_Ct mX12_pointMany (d + 1) 0 0 [vr 73, vr a] h nx Q := by
  have ht := hG.1
  refine ma_Ct.of (by decide +kernel) (Nat.le_of_ble_eq_true rfl) ?_
  refine ma_iconst dX12_pointMany_0 ?_
  refine ma_istore_nN dX12_pointMany_1 (by decide) rfl ?_
  refine ma_iconst dX12_pointMany_2 ?_
  refine ma_istore_nN dX12_pointMany_3 (by decide) rfl ?_
  exact l_X12_pointMany hM ha hG hA h86 h87 hB K 33 0 0 (by omega) (by omega) (by omega) rfl
set_option maxHeartbeats 2000000 in
theorem l_X12_roundMany {h : ma_H} {a nx d : Nat} {t : Int} {G Aa E P F R : Int → Int} {Q : Option ma_V → ma_H → Nat → Prop} {I : Nat → Int} (hM : h 73 = co 12 (mo I)) (ha : h a = ci 33 Aa) (hG : VG t G) (hA : AG t G Aa) (h86 : h 86 = ci 128 F) (h87 : h 87 = ci 32 R) (hB : BQ t G E P F R) (K : Q (some (vi (ct (fun c => P c = c ∧ RD t G E P c) (4 * t).toNat))) h nx) :
    ∀ (m : Nat) (k : Int) (c : Int), (0 ≤ k) → (k ≤ 4 * t) → (4 * t - k < m) → (c = ct (fun c => P c = c ∧ RD t G E P c) k.toNat) → ma_J none mX12_roundMany (d + 5) 0 0 4 [some (vr 73), some (vr a), some (vi c), some (vi k)] [] h nx Q := by
  have ht := hG.1
  intro m
  induction m with
  | zero => intro k c k0 k1 k2 hc; omega
  | succ m ih =>
    intro k c k0 k1 k2 hc
    refine ma_iload_n dX12_roundMany_4 rfl ?_
    refine ma_iconst dX12_roundMany_5 ?_
    refine ma_aload_n dX12_roundMany_6 rfl ?_
    refine ma_iconst dX12_roundMany_7 ?_
    refine ma_iald dX12_roundMany_8 (by assumption) (by omega) (by omega) (by omega) ?_
    rw [hA.1]
    refine ma_imul dX12_roundMany_9 ?_
    refine ma_rcmp_ge 44 dX12_roundMany_10 rfl (by constructor <;> omega) (by constructor <;> omega) (fun c10 => ?_) (fun c10 => ?_)
    · -- 44
      refine ma_iload_n dX12_roundMany_44 rfl ?_
      have e4 : k = 4 * t := by omega
      rw [hc, e4]
      exact ma_iret dX12_roundMany_45 rfl K
    · -- 13
      refine ma_iload_n dX12_roundMany_13 rfl ?_
      refine ma_aload_n dX12_roundMany_14 rfl ?_
      refine ma_iload_n dX12_roundMany_15 rfl ?_
      refine ma_cV [_] dX12_roundMany_16 wX12_isFirst lX12_316 iX12_isFirst sX12_isFirst rfl (by assumption) (Nat.le_of_ble_eq_true rfl) ?_
      refine c_X12_isFirst hM h87 hG hB ⟨k0, by omega⟩ (fun hf => ?_) (fun hf => ?_)
      · -- k1
        refine ma_rif_eq 35 dX12_roundMany_19 rfl (by decide) (fun c19 => absurd c19 (by decide)) (fun c19 => ?_)
        refine ma_aload_n dX12_roundMany_22 rfl ?_
        refine ma_aload_n dX12_roundMany_23 rfl ?_
        refine ma_iload_n dX12_roundMany_24 rfl ?_
        refine ma_cV [_, _] dX12_roundMany_25 wX12_isRound lX12_297 iX12_isRound sX12_isRound rfl (by assumption) (Nat.le_of_ble_eq_true rfl) ?_
        refine c_X12_isRound hM ha hG hA h86 h87 hB (by unfold rg; omega) (fun hr => ?_) (fun hr => ?_)
        · -- k1
          refine ma_rif_eq 35 dX12_roundMany_28 rfl (by decide) (fun c28 => absurd c28 (by decide)) (fun c28 => ?_)
          refine ma_iconst dX12_roundMany_31 ?_
          refine ma_goto 36 dX12_roundMany_32 rfl ?_
          refine ma_iadd dX12_roundMany_36 ?_
          refine ma_istore_nN dX12_roundMany_37 (by decide) rfl ?_
          refine ma_iincN dX12_roundMany_38 rfl (by decide) rfl ?_
          refine ma_goto 4 dX12_roundMany_41 rfl ?_
          exact ih (k + 1) _ (by omega) (by omega) (by omega) (by rw [ct_y (P := (fun c => P c = c ∧ RD t G E P c)) k0 ⟨hf, hr⟩, hc])
        · -- k0
          refine ma_rif_eq 35 dX12_roundMany_28 rfl (by decide) (fun c28 => ?_) (fun c28 => absurd c28 (by decide))
          refine ma_iconst dX12_roundMany_35 ?_
          refine ma_iadd dX12_roundMany_36 ?_
          refine ma_istore_nN dX12_roundMany_37 (by decide) rfl ?_
          refine ma_iincN dX12_roundMany_38 rfl (by decide) rfl ?_
          refine ma_goto 4 dX12_roundMany_41 rfl ?_
          exact ih (k + 1) _ (by omega) (by omega) (by omega) (by rw [ct_n (P := (fun c => P c = c ∧ RD t G E P c)) k0 (fun z => hr z.2), hc]; omega)
      · -- k0
        refine ma_rif_eq 35 dX12_roundMany_19 rfl (by decide) (fun c19 => ?_) (fun c19 => absurd c19 (by decide))
        refine ma_iconst dX12_roundMany_35 ?_
        refine ma_iadd dX12_roundMany_36 ?_
        refine ma_istore_nN dX12_roundMany_37 (by decide) rfl ?_
        refine ma_iincN dX12_roundMany_38 rfl (by decide) rfl ?_
        refine ma_goto 4 dX12_roundMany_41 rfl ?_
        exact ih (k + 1) _ (by omega) (by omega) (by omega) (by rw [ct_n (P := (fun c => P c = c ∧ RD t G E P c)) k0 (fun z => hf z.1), hc]; omega)
theorem c_X12_roundMany {h : ma_H} {a nx d : Nat} {t : Int} {G Aa E P F R : Int → Int} {Q : Option ma_V → ma_H → Nat → Prop} {I : Nat → Int} (hM : h 73 = co 12 (mo I)) (ha : h a = ci 33 Aa) (hG : VG t G) (hA : AG t G Aa) (h86 : h 86 = ci 128 F) (h87 : h 87 = ci 32 R) (hB : BQ t G E P F R) (K : Q (some (vi (ct (fun c => P c = c ∧ RD t G E P c) (4 * t).toNat))) h nx) : ma_Ct mX12_roundMany (d + 5) 0 0 [vr 73, vr a] h nx Q := by
  have ht := hG.1
  refine ma_Ct.of (by decide +kernel) (Nat.le_of_ble_eq_true rfl) ?_
  refine ma_iconst dX12_roundMany_0 ?_
  refine ma_istore_nN dX12_roundMany_1 (by decide) rfl ?_
  refine ma_iconst dX12_roundMany_2 ?_
  refine ma_istore_nN dX12_roundMany_3 (by decide) rfl ?_
  exact l_X12_roundMany hM ha hG hA h86 h87 hB K 33 0 0 (by omega) (by omega) (by omega) rfl
/-- no free face, no reversed edge, all points round -/
def MF (t : Int) (G E P : Int → Int) : Prop := ct (fun j => G j < 0) (4 * t).toNat = 0 ∧ ct (fun x => cP E x ∧ E x = E (tr x)) (16 * t).toNat = 0 ∧ ct (fun c => P c = c ∧ RD t G E P c) (4 * t).toNat = ct (qP P) (4 * t).toNat
set_option maxHeartbeats 2000000 in
theorem c_X12_isManifold {h : ma_H} {a nx d : Nat} {t : Int} {G Aa F0 R0 fi0 : Int → Int} {Q : Option ma_V → ma_H → Nat → Prop} {I : Nat → Int} (hM : h 73 = co 12 (mo I)) (ha : h a = ci 33 Aa) (na : a ≠ 86 ∧ a ≠ 87 ∧ a ≠ 88 ∧ a ≠ 73) (hG : VG t G) (hA : AG t G Aa) (h86 : h 86 = ci 128 F0) (h87 : h 87 = ci 32 R0) (h88 : h 88 = ci 48 fi0) (K1 : ∀ E P F R fi n, BQ t G E P F R → n ≤ 48 → FE E fi n (16 * t) → MF t G E P → Q (some (vi 1)) (ma_up (ma_up (ma_up (ma_up h 86 (ci 128 F)) 87 (ci 32 R)) 88 (ci 48 fi)) 73 (co 12 (mo (iu I 22 n)))) nx) (K0 : ∀ E P F R fi n, BQ t G E P F R → n ≤ 48 → FE E fi n (16 * t) → ¬ MF t G E P → Q (some (vi 0)) (ma_up (ma_up (ma_up (ma_up h 86 (ci 128 F)) 87 (ci 32 R)) 88 (ci 48 fi)) 73 (co 12 (mo (iu I 22 n)))) nx) : ma_Ct mX12_isManifold (d + 6) 0 0 [vr 73, vr a] h nx Q := by
  have ht := hG.1
  refine ma_Ct.of (by decide +kernel) (Nat.le_of_ble_eq_true rfl) ?_
  refine ma_aload_n dX12_isManifold_0 rfl ?_
  refine ma_aload_n dX12_isManifold_1 rfl ?_
  refine ma_cV [_] dX12_isManifold_2 wX12_layJoined lX12_269 iX12_layJoined sX12_layJoined rfl (by first | exact ma_up_s _ _ _ | assumption | exact (ma_up_n (by decide)).trans ((ma_up_n (by decide)).trans (by assumption))) (Nat.le_of_ble_eq_true rfl) ?_
  refine c_X12_layJoined hM ha ⟨na.1, na.2.1⟩ hG hA h86 h87 (fun E P F R hB => ?_)
  refine ma_aload_n dX12_isManifold_5 rfl ?_
  refine ma_aload_n dX12_isManifold_6 rfl ?_
  refine ma_cV [_] dX12_isManifold_7 wX12_layEdges lX12_309 iX12_layEdges sX12_layEdges rfl (by first | exact ma_up_s _ _ _ | assumption | exact (ma_up_n (by decide)).trans ((ma_up_n (by decide)).trans (by assumption))) (Nat.le_of_ble_eq_true rfl) ?_
  refine c_X12_layEdges ((ma_up_n (by decide)).trans ((ma_up_n (by decide)).trans hM)) ((ma_up_n na.2.1).trans ((ma_up_n na.1).trans ha)) ⟨na.2.2.1, na.2.2.2⟩ hG hA ((ma_up_n (by decide)).trans (ma_up_s _ _ _)) hB ((ma_up_n (by decide)).trans ((ma_up_n (by decide)).trans h88)) (fun fi n nb hF => ?_)
  have b1 := ct_in (fun j => G j < 0) (4 * t).toNat
  have b2 := ct_in (fun x => cP E x ∧ E x = E (tr x)) (16 * t).toNat
  have b3 := ct_in (fun c => P c = c ∧ RD t G E P c) (4 * t).toNat
  have b4 := ct_in (qP P) (4 * t).toNat
  refine ma_aload_n dX12_isManifold_10 rfl ?_
  refine ma_cS [_] dX12_isManifold_11 wX12_freeMany lX12_235 tX12_freeMany (Nat.le_of_ble_eq_true rfl) ?_
  refine c_X12_freeMany ((ma_up_n na.2.2.2).trans ((ma_up_n na.2.2.1).trans ((ma_up_n na.2.1).trans ((ma_up_n na.1).trans ha)))) hG hA ?_
  refine ma_rif_ne 41 dX12_isManifold_14 rfl (by constructor <;> omega) (fun c14 => ?_) (fun c14 => ?_)
  · -- 41
    refine ma_iconst dX12_isManifold_41 ?_
    first | exact ma_zret dX12_isManifold_42 rfl (Or.inr rfl) (K1 E P F R fi n hB nb hF ⟨by omega, by omega, by omega⟩) | exact ma_zret dX12_isManifold_42 rfl (Or.inl rfl) (K0 E P F R fi n hB nb hF (fun z => by have z1 := z.1; have z2 := z.2.1; have z3 := z.2.2; omega))
  · -- 17
    refine ma_aload_n dX12_isManifold_17 rfl ?_
    refine ma_cV [] dX12_isManifold_18 wX12_reversedMany lX12_313 iX12_reversedMany sX12_reversedMany rfl (by first | exact ma_up_s _ _ _ | assumption | exact (ma_up_n (by decide)).trans ((ma_up_n (by decide)).trans (by assumption))) (Nat.le_of_ble_eq_true rfl) ?_
    refine c_X12_reversedMany (ma_up_s _ _ _) ((ma_up_n (by first | decide | omega)).trans ((ma_up_n (by first | decide | omega)).trans ((ma_up_n (by first | decide | omega)).trans (ma_up_s _ _ _)))) ((ma_up_n (by first | decide | omega)).trans (ma_up_s _ _ _)) hG hB (iu_s _ _ _) nb hF ?_
    refine ma_rif_ne 41 dX12_isManifold_21 rfl (by constructor <;> omega) (fun c21 => ?_) (fun c21 => ?_)
    · -- 41
      refine ma_iconst dX12_isManifold_41 ?_
      first | exact ma_zret dX12_isManifold_42 rfl (Or.inr rfl) (K1 E P F R fi n hB nb hF ⟨by omega, by omega, by omega⟩) | exact ma_zret dX12_isManifold_42 rfl (Or.inl rfl) (K0 E P F R fi n hB nb hF (fun z => by have z1 := z.1; have z2 := z.2.1; have z3 := z.2.2; omega))
    · -- 24
      refine ma_aload_n dX12_isManifold_24 rfl ?_
      refine ma_aload_n dX12_isManifold_25 rfl ?_
      refine ma_cV [_] dX12_isManifold_26 wX12_roundMany lX12_319 iX12_roundMany sX12_roundMany rfl (by first | exact ma_up_s _ _ _ | assumption | exact (ma_up_n (by decide)).trans ((ma_up_n (by decide)).trans (by assumption))) (Nat.le_of_ble_eq_true rfl) ?_
      refine c_X12_roundMany (ma_up_s _ _ _) ((ma_up_n na.2.2.2).trans ((ma_up_n na.2.2.1).trans ((ma_up_n na.2.1).trans ((ma_up_n na.1).trans ha)))) hG hA ((ma_up_n (by first | decide | omega)).trans ((ma_up_n (by first | decide | omega)).trans ((ma_up_n (by first | decide | omega)).trans (ma_up_s _ _ _)))) ((ma_up_n (by first | decide | omega)).trans ((ma_up_n (by first | decide | omega)).trans (ma_up_s _ _ _))) hB ?_
      refine ma_aload_n dX12_isManifold_29 rfl ?_
      refine ma_aload_n dX12_isManifold_30 rfl ?_
      refine ma_cV [_] dX12_isManifold_31 wX12_pointMany lX12_322 iX12_pointMany sX12_pointMany rfl (by first | exact ma_up_s _ _ _ | assumption | exact (ma_up_n (by decide)).trans ((ma_up_n (by decide)).trans (by assumption))) (Nat.le_of_ble_eq_true rfl) ?_
      refine c_X12_pointMany (ma_up_s _ _ _) ((ma_up_n na.2.2.2).trans ((ma_up_n na.2.2.1).trans ((ma_up_n na.2.1).trans ((ma_up_n na.1).trans ha)))) hG hA ((ma_up_n (by first | decide | omega)).trans ((ma_up_n (by first | decide | omega)).trans ((ma_up_n (by first | decide | omega)).trans (ma_up_s _ _ _)))) ((ma_up_n (by first | decide | omega)).trans ((ma_up_n (by first | decide | omega)).trans (ma_up_s _ _ _))) hB ?_
      refine ma_rcmp_ne 41 dX12_isManifold_34 rfl (by constructor <;> omega) (by constructor <;> omega) (fun c34 => ?_) (fun c34 => ?_)
      · -- 41
        refine ma_iconst dX12_isManifold_41 ?_
        first | exact ma_zret dX12_isManifold_42 rfl (Or.inr rfl) (K1 E P F R fi n hB nb hF ⟨by omega, by omega, by omega⟩) | exact ma_zret dX12_isManifold_42 rfl (Or.inl rfl) (K0 E P F R fi n hB nb hF (fun z => by have z1 := z.1; have z2 := z.2.1; have z3 := z.2.2; omega))
      · -- 37
        refine ma_iconst dX12_isManifold_37 ?_
        refine ma_goto 42 dX12_isManifold_38 rfl ?_
        first | exact ma_zret dX12_isManifold_42 rfl (Or.inr rfl) (K1 E P F R fi n hB nb hF ⟨by omega, by omega, by omega⟩) | exact ma_zret dX12_isManifold_42 rfl (Or.inl rfl) (K0 E P F R fi n hB nb hF (fun z => by have z1 := z.1; have z2 := z.2.1; have z3 := z.2.2; omega))
