theorem bb_e (a : Int) : bi_b a = Int.bmod a 256 := by
  unfold bi_b
  rw [Int8.toInt_toInt32, Int32.toInt_toInt8, Int32.toInt_ofInt]
  show Int.bmod (Int.bmod a 4294967296) 256 = Int.bmod a 256
  exact Int.bmod_bmod_of_dvd (by decide)
theorem bs_e (a : Int) : bi_s a = Int.bmod a 65536 := by
  unfold bi_s
  rw [Int16.toInt_toInt32, Int32.toInt_toInt16, Int32.toInt_ofInt]
  show Int.bmod (Int.bmod a 4294967296) 65536 = Int.bmod a 65536
  exact Int.bmod_bmod_of_dvd (by decide)
theorem bm_in (a : Int) : -128 ≤ Int.bmod a 256 ∧ Int.bmod a 256 ≤ 127 := by
  have h1 := Int.le_bmod (x := a) (m := 256) (by decide)
  have h2 := Int.bmod_lt (x := a) (m := 256) (by decide)
  omega
theorem bnb_e {a : Int} (h : -128 ≤ a ∧ a ≤ 127) : bi_nb a = a := by
  unfold bi_nb
  show (((Int32.ofInt a).toInt8).toInt32).toInt = a
  have e := bb_e a
  unfold bi_b at e
  rw [e]
  exact Int.bmod_eq_of_le (by omega) (by omega)
/-- a sign as a byte -/
def sb (x : Int) : Int := Int.bmod x 256
theorem sb_e (x : Int) : bi_nb (bi_b x) = sb x := by
  rw [bb_e, bnb_e (bm_in x)]
  rfl
theorem sb_m (x : Int) : sb x % 256 = x % 256 := by
  unfold sb
  exact Int.bmod_emod
def ty4 (T : Int → Int) (n v : Int) : Int → Int := uf (uf (uf (uf T n (sb (v / 16777216))) (n + 1) (sb (v / 65536))) (n + 2) (sb (v / 256))) (n + 3) (sb v)
theorem iu_u {I : Nat → Int} {k : Nat} {x y : Int} : iu (iu I k x) k y = iu I k y := by
  funext j
  unfold iu
  split <;> rfl
theorem sgp {h : ma_H} {a b : ma_C} {I : Nat → Int} {x y : Int} {T : ma_C} : ma_up (ma_up (ma_up (ma_up h 75 T) 73 (co 12 (mo (iu I 2 x)))) 73 (co 12 (mo (iu (iu I 2 x) 2 y)))) 75 b = ma_up (ma_up h 75 b) 73 (co 12 (mo (iu I 2 y))) := by
  rw [ma_up_up, up_co (a := 75) (by decide), ma_up_up, iu_u]
  exact up_co (by decide)
theorem sg_3 {h : ma_H} {nx d : Nat} {n v : Int} {T : Int → Int} {I : Nat → Int} {Q : Option ma_V → ma_H → Nat → Prop} (n0 : 0 ≤ n ∧ n < 80) (rv : rg v) (K : ma_J none mX12_sign d 0 0 20 [some (vr 73), some (vi v), some (vi (2))] [] (ma_up (ma_up h 75 (cb 80 (uf T n (sb (v / 16777216))))) 73 (co 12 (mo (iu (iu I 5 0) 2 (n + 1))))) nx Q) : ma_J none mX12_sign d 0 0 20 [some (vr 73), some (vi v), some (vi (3))] [] (ma_up (ma_up h 75 (cb 80 T)) 73 (co 12 (mo (iu (iu I 5 0) 2 n)))) nx Q := by
  refine ma_iload_n dX12_sign_20 rfl ?_
  refine ma_rif_lt 53 dX12_sign_21 rfl (by decide) (fun c21 => absurd c21 (by decide)) (fun c21 => ?_)
  refine ma_aload_n dX12_sign_24 rfl ?_
  refine ma_getf dX12_sign_25 fX12_13 (by first | assumption | exact ma_up_s _ _ _ | exact (ma_up_n (by decide)).trans (by assumption) | exact (ma_up_n (by decide)).trans (ma_up_s _ _ _) | exact (ma_up_n (by decide)).trans ((ma_up_n (by decide)).trans (ma_up_s _ _ _))) (by rfl) ?_
  refine ma_aload_n dX12_sign_28 rfl ?_
  refine ma_dup dX12_sign_29 rfl ?_
  refine ma_getf dX12_sign_30 fX12_176 (by first | assumption | exact ma_up_s _ _ _ | exact (ma_up_n (by decide)).trans (by assumption) | exact (ma_up_n (by decide)).trans (ma_up_s _ _ _) | exact (ma_up_n (by decide)).trans ((ma_up_n (by decide)).trans (ma_up_s _ _ _))) (by rfl) ?_
  rw [iu_s]
  refine ma_dup_x1 dX12_sign_33 rfl rfl ?_
  refine ma_iconst dX12_sign_34 ?_
  refine ma_iadd dX12_sign_35 ?_
  refine ma_puti dX12_sign_36 fX12_176 (by first | assumption | exact ma_up_s _ _ _ | exact (ma_up_n (by decide)).trans (by assumption) | exact (ma_up_n (by decide)).trans (ma_up_s _ _ _) | exact (ma_up_n (by decide)).trans ((ma_up_n (by decide)).trans (ma_up_s _ _ _))) (Nat.le_of_ble_eq_true rfl) ?_
  rw [mo_2]
  refine ma_iload_n dX12_sign_39 rfl ?_
  refine ma_bipush dX12_sign_40 ?_
  refine ma_iload_n dX12_sign_42 rfl ?_
  refine ma_imulK (24) dX12_sign_43 (by decide) ?_
  refine ma_kshr 16777216 dX12_sign_44 (by decide) rv ?_
  refine ma_i2b dX12_sign_45 ?_
  refine ma_bast dX12_sign_46 (by first | assumption | exact ma_up_s _ _ _ | exact (ma_up_n (by decide)).trans (by assumption) | exact (ma_up_n (by decide)).trans (ma_up_s _ _ _) | exact (ma_up_n (by decide)).trans ((ma_up_n (by decide)).trans (ma_up_s _ _ _))) (by omega) (by omega) (by omega) ?_
  rw [sb_e, sgp (a := ma_vd)]
  refine ma_iincK (2) dX12_sign_47 rfl (by decide) rfl (by decide) ?_
  refine ma_goto 20 dX12_sign_50 rfl ?_
  exact K
theorem sg_2 {h : ma_H} {nx d : Nat} {n v : Int} {T : Int → Int} {I : Nat → Int} {Q : Option ma_V → ma_H → Nat → Prop} (n0 : 0 ≤ n ∧ n < 80) (rv : rg v) (K : ma_J none mX12_sign d 0 0 20 [some (vr 73), some (vi v), some (vi (1))] [] (ma_up (ma_up h 75 (cb 80 (uf T n (sb (v / 65536))))) 73 (co 12 (mo (iu (iu I 5 0) 2 (n + 1))))) nx Q) : ma_J none mX12_sign d 0 0 20 [some (vr 73), some (vi v), some (vi (2))] [] (ma_up (ma_up h 75 (cb 80 T)) 73 (co 12 (mo (iu (iu I 5 0) 2 n)))) nx Q := by
  refine ma_iload_n dX12_sign_20 rfl ?_
  refine ma_rif_lt 53 dX12_sign_21 rfl (by decide) (fun c21 => absurd c21 (by decide)) (fun c21 => ?_)
  refine ma_aload_n dX12_sign_24 rfl ?_
  refine ma_getf dX12_sign_25 fX12_13 (by first | assumption | exact ma_up_s _ _ _ | exact (ma_up_n (by decide)).trans (by assumption) | exact (ma_up_n (by decide)).trans (ma_up_s _ _ _) | exact (ma_up_n (by decide)).trans ((ma_up_n (by decide)).trans (ma_up_s _ _ _))) (by rfl) ?_
  refine ma_aload_n dX12_sign_28 rfl ?_
  refine ma_dup dX12_sign_29 rfl ?_
  refine ma_getf dX12_sign_30 fX12_176 (by first | assumption | exact ma_up_s _ _ _ | exact (ma_up_n (by decide)).trans (by assumption) | exact (ma_up_n (by decide)).trans (ma_up_s _ _ _) | exact (ma_up_n (by decide)).trans ((ma_up_n (by decide)).trans (ma_up_s _ _ _))) (by rfl) ?_
  rw [iu_s]
  refine ma_dup_x1 dX12_sign_33 rfl rfl ?_
  refine ma_iconst dX12_sign_34 ?_
  refine ma_iadd dX12_sign_35 ?_
  refine ma_puti dX12_sign_36 fX12_176 (by first | assumption | exact ma_up_s _ _ _ | exact (ma_up_n (by decide)).trans (by assumption) | exact (ma_up_n (by decide)).trans (ma_up_s _ _ _) | exact (ma_up_n (by decide)).trans ((ma_up_n (by decide)).trans (ma_up_s _ _ _))) (Nat.le_of_ble_eq_true rfl) ?_
  rw [mo_2]
  refine ma_iload_n dX12_sign_39 rfl ?_
  refine ma_bipush dX12_sign_40 ?_
  refine ma_iload_n dX12_sign_42 rfl ?_
  refine ma_imulK (16) dX12_sign_43 (by decide) ?_
  refine ma_kshr 65536 dX12_sign_44 (by decide) rv ?_
  refine ma_i2b dX12_sign_45 ?_
  refine ma_bast dX12_sign_46 (by first | assumption | exact ma_up_s _ _ _ | exact (ma_up_n (by decide)).trans (by assumption) | exact (ma_up_n (by decide)).trans (ma_up_s _ _ _) | exact (ma_up_n (by decide)).trans ((ma_up_n (by decide)).trans (ma_up_s _ _ _))) (by omega) (by omega) (by omega) ?_
  rw [sb_e, sgp (a := ma_vd)]
  refine ma_iincK (1) dX12_sign_47 rfl (by decide) rfl (by decide) ?_
  refine ma_goto 20 dX12_sign_50 rfl ?_
  exact K
theorem sg_1 {h : ma_H} {nx d : Nat} {n v : Int} {T : Int → Int} {I : Nat → Int} {Q : Option ma_V → ma_H → Nat → Prop} (n0 : 0 ≤ n ∧ n < 80) (rv : rg v) (K : ma_J none mX12_sign d 0 0 20 [some (vr 73), some (vi v), some (vi (0))] [] (ma_up (ma_up h 75 (cb 80 (uf T n (sb (v / 256))))) 73 (co 12 (mo (iu (iu I 5 0) 2 (n + 1))))) nx Q) : ma_J none mX12_sign d 0 0 20 [some (vr 73), some (vi v), some (vi (1))] [] (ma_up (ma_up h 75 (cb 80 T)) 73 (co 12 (mo (iu (iu I 5 0) 2 n)))) nx Q := by
  refine ma_iload_n dX12_sign_20 rfl ?_
  refine ma_rif_lt 53 dX12_sign_21 rfl (by decide) (fun c21 => absurd c21 (by decide)) (fun c21 => ?_)
  refine ma_aload_n dX12_sign_24 rfl ?_
  refine ma_getf dX12_sign_25 fX12_13 (by first | assumption | exact ma_up_s _ _ _ | exact (ma_up_n (by decide)).trans (by assumption) | exact (ma_up_n (by decide)).trans (ma_up_s _ _ _) | exact (ma_up_n (by decide)).trans ((ma_up_n (by decide)).trans (ma_up_s _ _ _))) (by rfl) ?_
  refine ma_aload_n dX12_sign_28 rfl ?_
  refine ma_dup dX12_sign_29 rfl ?_
  refine ma_getf dX12_sign_30 fX12_176 (by first | assumption | exact ma_up_s _ _ _ | exact (ma_up_n (by decide)).trans (by assumption) | exact (ma_up_n (by decide)).trans (ma_up_s _ _ _) | exact (ma_up_n (by decide)).trans ((ma_up_n (by decide)).trans (ma_up_s _ _ _))) (by rfl) ?_
  rw [iu_s]
  refine ma_dup_x1 dX12_sign_33 rfl rfl ?_
  refine ma_iconst dX12_sign_34 ?_
  refine ma_iadd dX12_sign_35 ?_
  refine ma_puti dX12_sign_36 fX12_176 (by first | assumption | exact ma_up_s _ _ _ | exact (ma_up_n (by decide)).trans (by assumption) | exact (ma_up_n (by decide)).trans (ma_up_s _ _ _) | exact (ma_up_n (by decide)).trans ((ma_up_n (by decide)).trans (ma_up_s _ _ _))) (Nat.le_of_ble_eq_true rfl) ?_
  rw [mo_2]
  refine ma_iload_n dX12_sign_39 rfl ?_
  refine ma_bipush dX12_sign_40 ?_
  refine ma_iload_n dX12_sign_42 rfl ?_
  refine ma_imulK (8) dX12_sign_43 (by decide) ?_
  refine ma_kshr 256 dX12_sign_44 (by decide) rv ?_
  refine ma_i2b dX12_sign_45 ?_
  refine ma_bast dX12_sign_46 (by first | assumption | exact ma_up_s _ _ _ | exact (ma_up_n (by decide)).trans (by assumption) | exact (ma_up_n (by decide)).trans (ma_up_s _ _ _) | exact (ma_up_n (by decide)).trans ((ma_up_n (by decide)).trans (ma_up_s _ _ _))) (by omega) (by omega) (by omega) ?_
  rw [sb_e, sgp (a := ma_vd)]
  refine ma_iincK (0) dX12_sign_47 rfl (by decide) rfl (by decide) ?_
  refine ma_goto 20 dX12_sign_50 rfl ?_
  exact K
theorem sg_0 {h : ma_H} {nx d : Nat} {n v : Int} {T : Int → Int} {I : Nat → Int} {Q : Option ma_V → ma_H → Nat → Prop} (n0 : 0 ≤ n ∧ n < 80) (rv : rg v) (K : ma_J none mX12_sign d 0 0 20 [some (vr 73), some (vi v), some (vi (-1))] [] (ma_up (ma_up h 75 (cb 80 (uf T n (sb (v / 1))))) 73 (co 12 (mo (iu (iu I 5 0) 2 (n + 1))))) nx Q) : ma_J none mX12_sign d 0 0 20 [some (vr 73), some (vi v), some (vi (0))] [] (ma_up (ma_up h 75 (cb 80 T)) 73 (co 12 (mo (iu (iu I 5 0) 2 n)))) nx Q := by
  refine ma_iload_n dX12_sign_20 rfl ?_
  refine ma_rif_lt 53 dX12_sign_21 rfl (by decide) (fun c21 => absurd c21 (by decide)) (fun c21 => ?_)
  refine ma_aload_n dX12_sign_24 rfl ?_
  refine ma_getf dX12_sign_25 fX12_13 (by first | assumption | exact ma_up_s _ _ _ | exact (ma_up_n (by decide)).trans (by assumption) | exact (ma_up_n (by decide)).trans (ma_up_s _ _ _) | exact (ma_up_n (by decide)).trans ((ma_up_n (by decide)).trans (ma_up_s _ _ _))) (by rfl) ?_
  refine ma_aload_n dX12_sign_28 rfl ?_
  refine ma_dup dX12_sign_29 rfl ?_
  refine ma_getf dX12_sign_30 fX12_176 (by first | assumption | exact ma_up_s _ _ _ | exact (ma_up_n (by decide)).trans (by assumption) | exact (ma_up_n (by decide)).trans (ma_up_s _ _ _) | exact (ma_up_n (by decide)).trans ((ma_up_n (by decide)).trans (ma_up_s _ _ _))) (by rfl) ?_
  rw [iu_s]
  refine ma_dup_x1 dX12_sign_33 rfl rfl ?_
  refine ma_iconst dX12_sign_34 ?_
  refine ma_iadd dX12_sign_35 ?_
  refine ma_puti dX12_sign_36 fX12_176 (by first | assumption | exact ma_up_s _ _ _ | exact (ma_up_n (by decide)).trans (by assumption) | exact (ma_up_n (by decide)).trans (ma_up_s _ _ _) | exact (ma_up_n (by decide)).trans ((ma_up_n (by decide)).trans (ma_up_s _ _ _))) (Nat.le_of_ble_eq_true rfl) ?_
  rw [mo_2]
  refine ma_iload_n dX12_sign_39 rfl ?_
  refine ma_bipush dX12_sign_40 ?_
  refine ma_iload_n dX12_sign_42 rfl ?_
  refine ma_imulK (0) dX12_sign_43 (by decide) ?_
  refine ma_kshr 1 dX12_sign_44 (by decide) rv ?_
  refine ma_i2b dX12_sign_45 ?_
  refine ma_bast dX12_sign_46 (by first | assumption | exact ma_up_s _ _ _ | exact (ma_up_n (by decide)).trans (by assumption) | exact (ma_up_n (by decide)).trans (ma_up_s _ _ _) | exact (ma_up_n (by decide)).trans ((ma_up_n (by decide)).trans (ma_up_s _ _ _))) (by omega) (by omega) (by omega) ?_
  rw [sb_e, sgp (a := ma_vd)]
  refine ma_iincK (-1) dX12_sign_47 rfl (by decide) rfl (by decide) ?_
  refine ma_goto 20 dX12_sign_50 rfl ?_
  exact K
theorem iu_id {I : Nat → Int} {k : Nat} {x : Int} (e : I k = x) : iu I k x = I := by
  funext j
  unfold iu
  split
  · rename_i z; rw [z, e]
  · rfl
theorem c_X12_sign {h : ma_H} {nx d : Nat} {n v : Int} {T : Int → Int} {I : Nat → Int} {Q : Option ma_V → ma_H → Nat → Prop} (hM : h 73 = co 12 (mo I)) (h75 : h 75 = cb 80 T) (e2 : I 2 = n) (hn : 0 ≤ n ∧ n ≤ 80) (rv : rg v) (K0 : 80 < n + 4 → Q (some (vi (-1))) (ma_up h 73 (co 12 (mo (iu I 5 0)))) nx) (K : n + 4 ≤ 80 → Q (some (vi (n + 4))) (ma_up (ma_up h 75 (cb 80 (ty4 T n v))) 73 (co 12 (mo (iu (iu I 5 0) 2 (n + 4))))) nx) : ma_Ct mX12_sign d 0 0 [vr 73, vi v] h nx Q := by
  refine ma_Ct.of (by decide +kernel) (Nat.le_of_ble_eq_true rfl) ?_
  refine ma_aload_n dX12_sign_0 rfl ?_
  refine ma_iconst dX12_sign_1 ?_
  refine ma_puti dX12_sign_2 fX12_128 (by first | assumption | exact ma_up_s _ _ _ | exact (ma_up_n (by decide)).trans (by assumption) | exact (ma_up_n (by decide)).trans (ma_up_s _ _ _) | exact (ma_up_n (by decide)).trans ((ma_up_n (by decide)).trans (ma_up_s _ _ _))) (Nat.le_of_ble_eq_true rfl) ?_
  rw [mo_5]
  refine ma_aload_n dX12_sign_5 rfl ?_
  refine ma_getf dX12_sign_6 fX12_176 (by first | assumption | exact ma_up_s _ _ _ | exact (ma_up_n (by decide)).trans (by assumption) | exact (ma_up_n (by decide)).trans (ma_up_s _ _ _) | exact (ma_up_n (by decide)).trans ((ma_up_n (by decide)).trans (ma_up_s _ _ _))) (by rfl) ?_
  rw [iu_n (by decide), e2]
  refine ma_iconst dX12_sign_9 ?_
  refine ma_iadd dX12_sign_10 ?_
  refine ma_bipush dX12_sign_11 ?_
  refine ma_rcmp_le 18 dX12_sign_13 rfl (by constructor <;> omega) (by constructor <;> omega) (fun c13 => ?_) (fun c13 => ?_)
  · -- 18
    refine ma_iconst dX12_sign_18 ?_
    refine ma_istore_nN dX12_sign_19 (by decide) rfl ?_
    rw [show ma_up h 73 (co 12 (mo (iu I 5 0))) = (ma_up (ma_up h 75 (cb 80 T)) 73 (co 12 (mo (iu (iu I 5 0) 2 n)))) by rw [ma_up_id h75, show iu (iu I 5 0) 2 n = iu I 5 0 by rw [iu_id]; rw [iu_n (by decide), e2]]]
    refine sg_3 (by omega) rv ?_
    refine sg_2 (by omega) rv ?_
    refine sg_1 (by omega) rv ?_
    refine sg_0 (by omega) rv ?_
    -- end
    refine ma_iload_n dX12_sign_20 rfl ?_
    refine ma_rif_lt 53 dX12_sign_21 rfl (by decide) (fun c21 => ?_) (fun c21 => absurd c21 (by decide))
    refine ma_aload_n dX12_sign_53 rfl ?_
    refine ma_getf dX12_sign_54 fX12_176 (by first | assumption | exact ma_up_s _ _ _ | exact (ma_up_n (by decide)).trans (by assumption) | exact (ma_up_n (by decide)).trans (ma_up_s _ _ _) | exact (ma_up_n (by decide)).trans ((ma_up_n (by decide)).trans (ma_up_s _ _ _))) (by rfl) ?_
    rw [iu_s]
    exact ma_iret dX12_sign_57 rfl (by have z := K (by omega); unfold ty4 at z; rw [show n + 1 + 1 + 1 + 1 = n + 4 by omega, show n + 1 + 1 + 1 = n + 3 by omega, show n + 1 + 1 = n + 2 by omega, show v / 1 = v by omega]; exact z)
  · -- 16
    refine ma_iconst dX12_sign_16 ?_
    exact ma_iret dX12_sign_17 rfl (K0 (by omega))
