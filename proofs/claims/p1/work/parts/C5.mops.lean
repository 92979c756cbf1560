/-- the model: its ints, row, ends, points, edges -/
def rh (h : ma_H) (I : Nat → Int) (f F R fi : Int → Int) : ma_H := ma_up (ma_up (ma_up (ma_up (ma_up h 76 (cl 96 f)) 86 (ci 128 F)) 87 (ci 32 R)) 88 (ci 48 fi)) 73 (co 12 (mo I))
theorem rh_73 {h : ma_H} {I : Nat → Int} {f F R fi : Int → Int} : rh h I f F R fi 73 = co 12 (mo I) := rfl
theorem rh_76 {h : ma_H} {I : Nat → Int} {f F R fi : Int → Int} : rh h I f F R fi 76 = cl 96 f := rfl
theorem rh_86 {h : ma_H} {I : Nat → Int} {f F R fi : Int → Int} : rh h I f F R fi 86 = ci 128 F := rfl
theorem rh_87 {h : ma_H} {I : Nat → Int} {f F R fi : Int → Int} : rh h I f F R fi 87 = ci 32 R := rfl
theorem rh_88 {h : ma_H} {I : Nat → Int} {f F R fi : Int → Int} : rh h I f F R fi 88 = ci 48 fi := rfl
theorem rh_n {h : ma_H} {I : Nat → Int} {f F R fi : Int → Int} {k : Nat} (e : k ≠ 73 ∧ k ≠ 76 ∧ k ≠ 86 ∧ k ≠ 87 ∧ k ≠ 88) : rh h I f F R fi k = h k := by
  obtain ⟨a, b, c, d, e⟩ := e
  unfold rh
  rw [ma_up_n a, ma_up_n e, ma_up_n d, ma_up_n c, ma_up_n b]
theorem rh_of {h : ma_H} {I : Nat → Int} {f F R fi : Int → Int} (a : h 73 = co 12 (mo I)) (b : h 76 = cl 96 f) (c : h 86 = ci 128 F) (d : h 87 = ci 32 R) (e : h 88 = ci 48 fi) : h = rh h I f F R fi := by
  unfold rh
  rw [ma_up_id b, ma_up_id c, ma_up_id d, ma_up_id e, ma_up_id a]
theorem rh_p {h : ma_H} {I : Nat → Int} {f F R fi : Int → Int} {I' : Nat → Int} : ma_up (rh h I f F R fi) 73 (co 12 (mo I')) = rh h I' f F R fi := by
  unfold rh
  rw [ma_up_up]
theorem rh_q {h : ma_H} {I : Nat → Int} {f F R fi : Int → Int} {I' : Nat → Int} {f' : Int → Int} : ma_up (ma_up (rh h I f F R fi) 76 (cl 96 f')) 73 (co 12 (mo I')) = rh h I' f' F R fi := by
  unfold rh
  funext j
  by_cases a : j = 73
  · subst a; rfl
  · by_cases b : j = 76
    · subst b; rfl
    · by_cases c : j = 86
      · subst c; rfl
      · by_cases d : j = 87
        · subst d; rfl
        · by_cases e : j = 88
          · subst e; rfl
          · simp only [ma_up, if_neg a, if_neg b, if_neg c, if_neg d, if_neg e]
theorem rh_j {h : ma_H} {I : Nat → Int} {f F R fi : Int → Int} {F' R' : Int → Int} : ma_up (ma_up (rh h I f F R fi) 86 (ci 128 F')) 87 (ci 32 R') = rh h I f F' R' fi := by
  unfold rh
  funext j
  by_cases a : j = 73
  · subst a; rfl
  · by_cases b : j = 76
    · subst b; rfl
    · by_cases c : j = 86
      · subst c; rfl
      · by_cases d : j = 87
        · subst d; rfl
        · by_cases e : j = 88
          · subst e; rfl
          · simp only [ma_up, if_neg a, if_neg b, if_neg c, if_neg d, if_neg e]
theorem rh_e {h : ma_H} {I : Nat → Int} {f F R fi : Int → Int} {I' : Nat → Int} {fi' : Int → Int} : ma_up (ma_up (rh h I f F R fi) 88 (ci 48 fi')) 73 (co 12 (mo I')) = rh h I' f F R fi' := by
  unfold rh
  rw [up_co (a := 73) (by decide), ma_up_up, ma_up_up]
theorem r_tell {h : ma_H} {I : Nat → Int} {f F R fi : Int → Int} {nx d : Nat} {v w : Int} {Q : Option ma_V → ma_H → Nat → Prop} (n : Int) (hn : I 4 = n) (n0 : 0 ≤ n ∧ n < 96) (e : v = w) (K : Q none (rh h (iu I 4 (n + 1)) (uf f n w) F R fi) nx) : ma_Ct mX12_tell d 0 0 [vr 73, vl v] (rh h I f F R fi) nx Q := by
  subst e
  refine c_X12_tell (n := 0) rh_73 rh_76 (by rw [hn]; exact n0) ?_
  rw [rh_q, hn]
  exact K
theorem r_lj {h : ma_H} {I : Nat → Int} {f F R fi : Int → Int} {nx d : Nat} {t : Int} {G Aa : Int → Int} {Q : Option ma_V → ma_H → Nat → Prop} (h74 : h 74 = ci 33 Aa) (hG : VG t G) (hA : AG t G Aa) (K : ∀ E P F R, BQ t G E P F R → Q none (rh h I f F R fi) nx) : ma_Ct mX12_layJoined (d + 2) 0 0 [vr 73, vr 74] (rh h I f F R fi) nx Q := by
  refine c_X12_layJoined rh_73 ((rh_n (by decide)).trans h74) (by decide) hG hA rh_86 rh_87 (fun E P F R hB => ?_)
  rw [rh_j]
  exact K E P F R hB
theorem r_le {h : ma_H} {I : Nat → Int} {f F R fi : Int → Int} {nx d : Nat} {t : Int} {G Aa E P : Int → Int} {Q : Option ma_V → ma_H → Nat → Prop} (h74 : h 74 = ci 33 Aa) (hG : VG t G) (hA : AG t G Aa) (hB : BQ t G E P F R) (K : ∀ fi n, n ≤ 48 → FE E fi n (16 * t) → Q none (rh h (iu I 22 n) f F R fi) nx) : ma_Ct mX12_layEdges (d + 3) 0 0 [vr 73, vr 74] (rh h I f F R fi) nx Q := by
  refine c_X12_layEdges rh_73 ((rh_n (by decide)).trans h74) (by decide) hG hA rh_86 hB rh_88 (fun fi n n0 hF => ?_)
  rw [rh_e]
  exact K fi n n0 hF
set_option maxHeartbeats 2000000 in
theorem c_X12_euler {h : ma_H} {nx d : Nat} {I : Nat → Int} {t : Int} {G Aa f F0 R0 fi0 : Int → Int} {Q : Option ma_V → ma_H → Nat → Prop} (h74 : h 74 = ci 33 Aa) (hG : VG t G) (hA : AG t G Aa)  (K : ∀ E P F R fi n, BQ t G E P F R → n = ct (cP E) (16 * t).toNat → Q (some (vi (100 + ct (qP P) (4 * t).toNat - n + (4 * t + ct (fun j => G j < 0) (4 * t).toNat) / 2 - t))) (rh h (iu (iu I 5 0) 22 n) f F R fi) nx) : ma_Ct mX12_euler (d + 7) 0 0 [vr 73] (rh h I f F0 R0 fi0) nx Q := by
  have ht := hG.1
  refine ma_Ct.of (by decide +kernel) (Nat.le_of_ble_eq_true rfl) ?_
  refine ma_aload_n dX12_euler_0 rfl ?_
  refine ma_iconst dX12_euler_1 ?_
  refine ma_puti dX12_euler_2 fX12_128 (by first | exact rh_73 | exact ((rh_n (by decide)).trans h74) | exact rh_86 | exact rh_87 | exact rh_88) (Nat.le_of_ble_eq_true rfl) ?_
  rw [mo_5, rh_p]
  refine ma_aload_n dX12_euler_5 rfl ?_
  refine ma_aload_n dX12_euler_6 rfl ?_
  refine ma_getf dX12_euler_7 fX12_9 (by first | exact rh_73 | exact ((rh_n (by decide)).trans h74) | exact rh_86 | exact rh_87 | exact rh_88) (by rfl) ?_
  refine ma_cV [_] dX12_euler_10 wX12_layJoined lX12_269 iX12_layJoined sX12_layJoined rfl (by first | exact rh_73 | exact ((rh_n (by decide)).trans h74) | exact rh_86 | exact rh_87 | exact rh_88) (Nat.le_of_ble_eq_true rfl) ?_
  refine r_lj h74 hG hA (fun E P F R hB => ?_)
  have b4 := ct_in (qP P) (4 * t).toNat
  have b5 := ct_in (cP E) (16 * t).toNat
  have bc := br_b (E := E) (P := P) (G := G) ht
  refine ma_aload_n dX12_euler_13 rfl ?_
  refine ma_aload_n dX12_euler_14 rfl ?_
  refine ma_getf dX12_euler_15 fX12_9 (by first | exact rh_73 | exact ((rh_n (by decide)).trans h74) | exact rh_86 | exact rh_87 | exact rh_88) (by rfl) ?_
  refine ma_cV [_] dX12_euler_18 wX12_layEdges lX12_309 iX12_layEdges sX12_layEdges rfl (by first | exact rh_73 | exact ((rh_n (by decide)).trans h74) | exact rh_86 | exact rh_87 | exact rh_88) (Nat.le_of_ble_eq_true rfl) ?_
  refine r_le h74 hG hA hB (fun fi n n0 hF => ?_)
  have n1 := hF.1
  refine ma_iconst dX12_euler_21 ?_
  refine ma_aload_n dX12_euler_22 rfl ?_
  refine ma_getf dX12_euler_23 fX12_9 (by first | exact rh_73 | exact ((rh_n (by decide)).trans h74) | exact rh_86 | exact rh_87 | exact rh_88) (by rfl) ?_
  refine ma_iconst dX12_euler_26 ?_
  refine ma_iald dX12_euler_27 (by first | exact rh_73 | exact ((rh_n (by decide)).trans h74) | exact rh_86 | exact rh_87 | exact rh_88) (by omega) (by omega) (by omega) ?_
  rw [hA.1]
  refine ma_imul dX12_euler_28 ?_
  refine ma_aload_n dX12_euler_29 rfl ?_
  refine ma_getf dX12_euler_30 fX12_9 (by first | exact rh_73 | exact ((rh_n (by decide)).trans h74) | exact rh_86 | exact rh_87 | exact rh_88) (by rfl) ?_
  refine ma_cS [_] dX12_euler_33 wX12_freeMany lX12_235 tX12_freeMany (Nat.le_of_ble_eq_true rfl) ?_
  refine c_X12_freeMany ((rh_n (by decide)).trans h74) hG hA ?_
  have b1 := ct_in (fun j => G j < 0) (4 * t).toNat
  refine ma_iadd dX12_euler_36 ?_
  refine ma_iconst dX12_euler_37 ?_
  refine ma_kdiv dX12_euler_38 (by constructor <;> omega) (by constructor <;> omega) ?_
  refine ma_istore_nN dX12_euler_39 (by decide) rfl ?_
  refine ma_bipush dX12_euler_40 ?_
  refine ma_aload_n dX12_euler_42 rfl ?_
  refine ma_aload_n dX12_euler_43 rfl ?_
  refine ma_getf dX12_euler_44 fX12_9 (by first | exact rh_73 | exact ((rh_n (by decide)).trans h74) | exact rh_86 | exact rh_87 | exact rh_88) (by rfl) ?_
  refine ma_cV [_] dX12_euler_47 wX12_pointMany lX12_322 iX12_pointMany sX12_pointMany rfl (by first | exact rh_73 | exact ((rh_n (by decide)).trans h74) | exact rh_86 | exact rh_87 | exact rh_88) (Nat.le_of_ble_eq_true rfl) ?_
  refine c_X12_pointMany rh_73 ((rh_n (by decide)).trans h74) hG hA rh_86 rh_87 hB ?_
  refine ma_iadd dX12_euler_50 ?_
  refine ma_aload_n dX12_euler_51 rfl ?_
  refine ma_getf dX12_euler_52 fX12_300 (by first | exact rh_73 | exact ((rh_n (by decide)).trans h74) | exact rh_86 | exact rh_87 | exact rh_88) (by rfl) ?_
  rw [show iu (iu I 5 0) 22 n 22 = n from rfl]
  refine ma_isub dX12_euler_55 ?_
  refine ma_iload_n dX12_euler_56 rfl ?_
  refine ma_iadd dX12_euler_57 ?_
  refine ma_aload_n dX12_euler_58 rfl ?_
  refine ma_getf dX12_euler_59 fX12_9 (by first | exact rh_73 | exact ((rh_n (by decide)).trans h74) | exact rh_86 | exact rh_87 | exact rh_88) (by rfl) ?_
  refine ma_iconst dX12_euler_62 ?_
  refine ma_iald dX12_euler_63 (by first | exact rh_73 | exact ((rh_n (by decide)).trans h74) | exact rh_86 | exact rh_87 | exact rh_88) (by omega) (by omega) (by omega) ?_
  rw [hA.1]
  refine ma_isub dX12_euler_64 ?_
  exact ma_iret dX12_euler_65 rfl (K E P F R fi n hB n1)
